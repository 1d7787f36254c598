section
theorem tg_355 {M M1 : mm_M} (F : FR (fun a i : Nat => 94 ≤ a ∧ a ≤ 98) M M1) : ∀ a i : Nat, WC_r a i → M1.2.1 a i = M.2.1 a i := fun a i z => F_n F (show ¬ (94 ≤ a ∧ a ≤ 98) by omega) rfl
theorem tg_356 : ∀ a i : Nat, (a < 0) → (a = 77 ∧ i = 2 ∨ 94 ≤ a ∧ a ≤ 98 ∨ a = 118) := fun a i z => by omega
theorem tg_357 : ∀ a i : Nat, (94 ≤ a ∧ a ≤ 98) → (a = 77 ∧ i = 2 ∨ 94 ≤ a ∧ a ≤ 98 ∨ a = 118) := fun a i z => by omega
set_option maxRecDepth 4000 in
set_option maxHeartbeats 0 in
theorem T_237_0 {X : mm_X} {d : Nat} {M : mm_M} {Q : Option Value → mm_M → Prop} {n : Int32} {w : Int32} (hX : g_X X) (hd : 3 ≤ d) (q1 : NJ M) (q2 : FA M) (q3 : WC M) (h : ∀ (r : Int32) (M1 : mm_M), g_G M1 → FR md_bs M M1 → Q (some (.int r)) M1) : ∀ nn9 : Nat, (∀ (N : mm_M) (u1 : Value) (x3 : Int32) (x4 : Int32) (x5 : Int32) (x6 : Int32) (x7 : Int32) (u8 : Value) (u9 : Value) (u10 : Value) (u11 : Value) (u12 : Value) (u13 : Value), g_G N → FR md_bs M N → (1 ≤ x4.toInt) → (x4.toInt ≤ 4) → (0 ≤ x3.toInt) → (x3.toInt ≤ 7) → (0 ≤ w.toInt) → (w.toInt ≤ 11) → (x4.toInt ≤ (N.2.1 83 (x3.toInt).toNat).toInt - (N.2.1 82 (x3.toInt).toNat).toInt + 1) → (∀ i : Nat, i < (x4.toInt).toNat → (N.2.1 118 i).toInt ≤ (N.2.1 83 (x3.toInt).toNat).toInt - (N.2.1 82 (x3.toInt).toNat).toInt + 1 - x4.toInt + i) → (16777216 - PV N (x4.toInt).toNat) * 1000 + 500 < (nn9 : Int) → mm_T X d 236 77 [.ref 77, u1, .int w, .int x3, .int x4, .int x5, .int x6, .int x7, u8, u9, u10, u11, u12, u13] [] N Q) ∧ (∀ (N : mm_M) (u1 : Value) (x3 : Int32) (x4 : Int32) (x5 : Int32) (x6 : Int32) (x7 : Int32) (x8 : Int32) (x9 : Int32) (u10 : Value) (u11 : Value) (u12 : Value) (u13 : Value), g_G N → FR md_bs M N → (1 ≤ x4.toInt) → (x4.toInt ≤ 4) → (0 ≤ x3.toInt) → (x3.toInt ≤ 7) → (0 ≤ w.toInt) → (w.toInt ≤ 11) → (x4.toInt ≤ (N.2.1 83 (x3.toInt).toNat).toInt - (N.2.1 82 (x3.toInt).toNat).toInt + 1) → (0 ≤ x9.toInt) → (x9.toInt ≤ 4) → (∀ i : Nat, i < (x4.toInt).toNat → (N.2.1 118 i).toInt ≤ (N.2.1 83 (x3.toInt).toNat).toInt - (N.2.1 82 (x3.toInt).toNat).toInt + 1 - x4.toInt + i) → (16777216 - PV N (x4.toInt).toNat) * 1000 + 400 - x9.toInt < (nn9 : Int) → mm_T X d 236 83 [.ref 77, u1, .int w, .int x3, .int x4, .int x5, .int x6, .int x7, .int x8, .int x9, u10, u11, u12, u13] [] N Q) ∧ (∀ (N : mm_M) (u1 : Value) (x3 : Int32) (x4 : Int32) (x5 : Int32) (x6 : Int32) (x7 : Int32) (u8 : Value) (u9 : Value) (u10 : Value) (u11 : Value) (x12 : Int32) (u13 : Value), g_G N → FR md_bs M N → (1 ≤ x4.toInt) → (x4.toInt ≤ 4) → (0 ≤ x3.toInt) → (x3.toInt ≤ 7) → (0 ≤ w.toInt) → (w.toInt ≤ 11) → (x4.toInt ≤ (N.2.1 83 (x3.toInt).toNat).toInt - (N.2.1 82 (x3.toInt).toNat).toInt + 1) → (-1 ≤ x12.toInt) → (x12.toInt ≤ 3) → (x12.toInt < x4.toInt) → (∀ i : Nat, i < (x4.toInt).toNat → (N.2.1 118 i).toInt ≤ (N.2.1 83 (x3.toInt).toNat).toInt - (N.2.1 82 (x3.toInt).toNat).toInt + 1 - x4.toInt + i) → (16777216 - PV N (x4.toInt).toNat) * 1000 + 200 + x12.toInt < (nn9 : Int) → mm_T X d 236 226 [.ref 77, u1, .int w, .int x3, .int x4, .int x5, .int x6, .int x7, u8, u9, u10, u11, .int x12, u13] [] N Q) ∧ (∀ (N : mm_M) (u1 : Value) (x3 : Int32) (x4 : Int32) (x5 : Int32) (x6 : Int32) (x7 : Int32) (u8 : Value) (u9 : Value) (u10 : Value) (u11 : Value) (u12 : Value) (x13 : Int32), g_G N → FR md_bs M N → (1 ≤ x4.toInt) → (x4.toInt ≤ 4) → (0 ≤ x3.toInt) → (x3.toInt ≤ 7) → (0 ≤ w.toInt) → (w.toInt ≤ 11) → (x4.toInt ≤ (N.2.1 83 (x3.toInt).toNat).toInt - (N.2.1 82 (x3.toInt).toNat).toInt + 1) → (1 ≤ x13.toInt) → (x13.toInt ≤ 4) → (x13.toInt ≤ x4.toInt) → (∀ i : Nat, i < (x13.toInt).toNat → (N.2.1 118 i).toInt ≤ (N.2.1 83 (x3.toInt).toNat).toInt - (N.2.1 82 (x3.toInt).toNat).toInt + 1 - x4.toInt + i) → (16777216 - PW N (x13.toInt).toNat (x4.toInt).toNat) * 1000 + 900 - x13.toInt < (nn9 : Int) → mm_T X d 236 283 [.ref 77, u1, .int w, .int x3, .int x4, .int x5, .int x6, .int x7, u8, u9, u10, u11, u12, .int x13] [] N Q) := by
  intro nn9
  induction nn9 with
  | zero =>
    refine ⟨?_, ?_, ?_, ?_⟩
    · intro N u1 x3 x4 x5 x6 x7 u8 u9 u10 u11 u12 u13 hG F0 g1 g2 g3 g4 g5 g6 g7 g8 hm
      have s_1 := PV_b hG (x4.toInt).toNat
      have s_2 := pw_4 (k := (x4.toInt).toNat) (by omega)
      exfalso; omega
    · intro N u1 x3 x4 x5 x6 x7 x8 x9 u10 u11 u12 u13 hG F0 g1 g2 g3 g4 g5 g6 g7 g8 g9 g10 hm
      have s_3 := PV_b hG (x4.toInt).toNat
      have s_4 := pw_4 (k := (x4.toInt).toNat) (by omega)
      exfalso; omega
    · intro N u1 x3 x4 x5 x6 x7 u8 u9 u10 u11 x12 u13 hG F0 g1 g2 g3 g4 g5 g6 g7 g8 g9 g10 g11 hm
      have s_5 := PV_b hG (x4.toInt).toNat
      have s_6 := pw_4 (k := (x4.toInt).toNat) (by omega)
      exfalso; omega
    · intro N u1 x3 x4 x5 x6 x7 u8 u9 u10 u11 u12 x13 hG F0 g1 g2 g3 g4 g5 g6 g7 g8 g9 g10 g11 hm
      have s_7 := PW_b hG (j := (x13.toInt).toNat) (k := (x4.toInt).toNat) (by omega) (by omega)
      exfalso; omega
  | succ nn9 ih =>
    refine ⟨?_, ?_, ?_, ?_⟩
    · intro N u1 x3 x4 x5 x6 x7 u8 u9 u10 u11 u12 u13 hG F0 g1 g2 g3 g4 g5 g6 g7 g8 hm
      have s_8 := PV_b hG (x4.toInt).toNat
      have s_9 := pw_4 (k := (x4.toInt).toNat) (by omega)
      have s_10 := g_b hG (a := 83) (i := (x3.toInt).toNat) (lo := 0) (hi := 63) rfl rfl
      have s_11 := g_b hG (a := 82) (i := (x3.toInt).toNat) (lo := 0) (hi := 59) rfl rfl
      refine to_c (pc := 77) rw_237_77 (x := (0 : Int32)) rfl rfl (to_is (pc := 78) rw_237_78 (ls2 := [.ref 77, u1, .int w, .int x3, .int x4, .int x5, .int x6, .int x7, .int (0 : Int32), u9, u10, u11, u12, u13]) rfl rfl (to_c (pc := 80) rw_237_80 (x := (0 : Int32)) rfl rfl (to_is (pc := 81) rw_237_81 (ls2 := [.ref 77, u1, .int w, .int x3, .int x4, .int x5, .int x6, .int x7, .int (0 : Int32), .int (0 : Int32), u10, u11, u12, u13]) rfl rfl ?_)))
      have k_12 : (0 : Int32).toInt = 0 := rfl
      exact ih.2.1 N (u1) x3 x4 x5 x6 x7 (0 : Int32) (0 : Int32) (u10) (u11) (u12) (u13) hG F0 (by omega) (by omega) (by omega) (by omega) (by omega) (by omega) (by omega) (by omega) (by omega) g8 (by omega)
    · intro N u1 x3 x4 x5 x6 x7 x8 x9 u10 u11 u12 u13 hG F0 g1 g2 g3 g4 g5 g6 g7 g8 g9 g10 hm
      have s_13 := PV_b hG (x4.toInt).toNat
      have s_14 := pw_4 (k := (x4.toInt).toNat) (by omega)
      have s_15 := g_b hG (a := 83) (i := (x3.toInt).toNat) (lo := 0) (hi := 63) rfl rfl
      have s_16 := g_b hG (a := 82) (i := (x3.toInt).toNat) (lo := 0) (hi := 59) rfl rfl
      refine to_i (pc := 83) rw_237_83 rfl (to_i (pc := 85) rw_237_85 rfl (b_cge (pc := 87) rw_237_87 (A := x9.toInt) (B := x4.toInt) rfl rfl (fun h17 => ?_) (fun h17 => ?_)))
      · refine to_an (pc := 110) rw_237_110 rfl (to_in (pc := 111) rw_237_111 rfl (to_an (pc := 112) rw_237_112 rfl (to_in (pc := 113) rw_237_113 rfl (to_i (pc := 114) rw_237_114 rfl (s_v (pc := 116) rw_237_116 (dp0 hd (by decide)) (ls0 := [.ref 77, .int w, .int x8]) rfl (Nat.le_of_ble_eq_true rfl) (Nat.le_of_ble_eq_true rfl) rfl (to_rc rfl rfl rfl (g_o hG rfl)) rfl (to_in (pc := 0) rw_188_0 rfl (s_i2l (pc := 1) rw_188_1 (fun l18 e19 => to_an (pc := 2) rw_188_2 rfl (s_gR (pc := 3) rw_188_3 hG rfl (v := 82) rfl (to_an (pc := 6) rw_188_6 rfl (s_gR (pc := 7) rw_188_7 hG rfl (v := 86) rfl ?_)))))))))))
        refine to_in (pc := 10) rw_188_10 rfl (s_ial (pc := 11) rw_188_11 hG rfl (n := 24) rfl rfl (A := w.toInt) rfl (by omega) (by omega) (lo := 0) (hi := 7) rfl rfl (fun v20 w_21 _ _ => s_ial (pc := 12) rw_188_12 hG rfl (n := 16) rfl rfl (A := v20.toInt) rfl (by omega) (by omega) (lo := 0) (hi := 59) rfl rfl (fun v22 w_23 _ _ => ?_)))
        have t_24 := congrArg Int32.toInt w_23
        refine s_anyS (pc := 13) rw_188_13 (fun _ _ => rfl) (fun l25 => to_rl (pc := 14) rw_188_14 (s_v (pc := 119) rw_237_119 (dp0 hd (by decide)) (ls0 := [.ref 77, .int w, .long l25, .null, .null, .null]) rfl (Nat.le_of_ble_eq_true rfl) (Nat.le_of_ble_eq_true rfl) rfl (to_rc rfl rfl rfl (g_o hG rfl)) rfl (C_234 hX (dp1 hd (by decide)) hG (w := w) (x := l25) (fun r26 M29 hG28 F27 => ?_))))
        have F30 := FR.c F0 F27 tg_356
        refine to_is (pc := 122) rw_237_122 (ls2 := [.ref 77, u1, .int w, .int x3, .int x4, .int x5, .int x6, .int x7, .int x8, .int r26, u10, u11, u12, u13]) rfl rfl (to_i (pc := 124) rw_237_124 rfl (to_c (pc := 126) rw_237_126 (x := (-1 : Int32)) rfl rfl (b_ceq (pc := 127) rw_237_127 (A := x5.toInt) (B := -1) rfl rfl (fun h31 => ?_) (fun h31 => ?_))))
        · refine to_an (pc := 137) rw_237_137 rfl (to_in (pc := 138) rw_237_138 rfl (to_an (pc := 139) rw_237_139 rfl (to_in (pc := 140) rw_237_140 rfl (to_i (pc := 141) rw_237_141 rfl (s_v (pc := 143) rw_237_143 (dp0 hd (by decide)) (ls0 := [.ref 77, .int w, .int x8]) rfl (Nat.le_of_ble_eq_true rfl) (Nat.le_of_ble_eq_true rfl) rfl (to_rc rfl rfl rfl (g_o hG28 rfl)) rfl (to_in (pc := 0) rw_188_0 rfl (s_i2l (pc := 1) rw_188_1 (fun l32 e33 => to_an (pc := 2) rw_188_2 rfl (s_gR (pc := 3) rw_188_3 hG28 rfl (v := 82) rfl (to_an (pc := 6) rw_188_6 rfl (s_gR (pc := 7) rw_188_7 hG28 rfl (v := 86) rfl ?_)))))))))))
          refine to_in (pc := 10) rw_188_10 rfl (s_ialk (pc := 11) rw_188_11 hG28 rfl (n := 24) rfl rfl (A := w.toInt) rfl (by omega) (by omega) (v := v20) (F_n F27 (show ¬ (86 < 0) by decide) w_21) (s_ialk (pc := 12) rw_188_12 hG28 rfl (n := 16) rfl rfl (A := v20.toInt) rfl (by omega) (by omega) (v := v22) (F_n F27 (show ¬ (82 < 0) by decide) w_23) (s_anyS (pc := 13) rw_188_13 (fun _ _ => rfl) (fun l38 => to_rl (pc := 14) rw_188_14 (s_v (pc := 146) rw_237_146 (dp0 hd (by decide)) (ls0 := [.ref 77, .int w, .long l38, .null, .null, .null]) rfl (Nat.le_of_ble_eq_true rfl) (Nat.le_of_ble_eq_true rfl) rfl (to_rc rfl rfl rfl (g_o hG28 rfl)) rfl (C_236 hX (dp1 hd (by decide)) hG28 (w := w) (x := l38) (fun r39 M42 hG41 F40 => ?_)))))))
          have F43 := FR.c F30 F40 tg_356
          refine to_go (pc := 149) rw_237_149 (to_is (pc := 153) rw_237_153 (ls2 := [.ref 77, u1, .int w, .int x3, .int x4, .int x5, .int x6, .int x7, .int x8, .int r26, .int r39, u11, u12, u13]) rfl rfl (to_i (pc := 155) rw_237_155 rfl (to_c (pc := 157) rw_237_157 (x := (-1 : Int32)) rfl rfl (b_ceq_t (pc := 158) rw_237_158 (A := x5.toInt) (B := -1) rfl rfl (by omega) (to_c (pc := 196) rw_237_196 (x := (1 : Int32)) rfl rfl (to_go (pc := 197) rw_237_197 (to_is (pc := 201) rw_237_201 (ls2 := [.ref 77, u1, .int w, .int x3, .int x4, .int x5, .int x6, .int x7, .int x8, .int r26, .int r39, .int (1 : Int32), u12, u13]) rfl rfl (to_i (pc := 203) rw_237_203 rfl (b_ieq_f (pc := 205) rw_237_205 (A := 1) rfl (by decide) (to_i (pc := 208) rw_237_208 rfl (to_is (pc := 210) rw_237_210 (ls2 := [.ref 77, u1, .int w, .int x3, .int x4, .int x8, .int x6, .int x7, .int x8, .int r26, .int r39, .int (1 : Int32), u12, u13]) rfl rfl ?_)))))))))))
          refine to_i (pc := 212) rw_237_212 rfl (to_is (pc := 214) rw_237_214 (ls2 := [.ref 77, u1, .int w, .int x3, .int x4, .int x8, .int r26, .int x7, .int x8, .int r26, .int r39, .int (1 : Int32), u12, u13]) rfl rfl (to_i (pc := 216) rw_237_216 rfl (to_is (pc := 218) rw_237_218 (ls2 := [.ref 77, u1, .int w, .int x3, .int x4, .int x8, .int r26, .int r39, .int x8, .int r26, .int r39, .int (1 : Int32), u12, u13]) rfl rfl (to_i (pc := 220) rw_237_220 rfl (to_c (pc := 222) rw_237_222 (x := (1 : Int32)) rfl rfl (s_sub (pc := 223) rw_237_223 (A := x4.toInt) (B := 1) rfl rfl (by omega) (fun v44 e45 => to_is (pc := 224) rw_237_224 (ls2 := [.ref 77, u1, .int w, .int x3, .int x4, .int x8, .int r26, .int r39, .int x8, .int r26, .int r39, .int (1 : Int32), .int v44, u13]) rfl rfl ?_)))))))
          have t_46 : (M42.2.1 83 (x3.toInt).toNat).toInt = (N.2.1 83 (x3.toInt).toNat).toInt := congrArg Int32.toInt (F_n F40 (show ¬ (83 < 0) by decide) (F_n F27 (show ¬ (83 < 0) by decide) rfl))
          have t_47 : (M42.2.1 82 (x3.toInt).toNat).toInt = (N.2.1 82 (x3.toInt).toNat).toInt := congrArg Int32.toInt (F_n F40 (show ¬ (82 < 0) by decide) (F_n F27 (show ¬ (82 < 0) by decide) rfl))
          have t_48 : (M42.2.1 82 (x3.toInt).toNat).toInt = (N.2.1 82 (x3.toInt).toNat).toInt := congrArg Int32.toInt (F_n F40 (show ¬ (82 < 0) by decide) (F_n F27 (show ¬ (82 < 0) by decide) rfl))
          have t_49 : (M42.2.1 83 (x3.toInt).toNat).toInt = (N.2.1 83 (x3.toInt).toNat).toInt := congrArg Int32.toInt (F_n F40 (show ¬ (83 < 0) by decide) (F_n F27 (show ¬ (83 < 0) by decide) rfl))
          have s_50 : PV M42 (x4.toInt).toNat = PV N (x4.toInt).toNat := PV_f _ (fun i z => (F_n F40 (show ¬ (118 < 0) by decide) (F_n F27 (show ¬ (118 < 0) by decide) rfl)))
          exact ih.2.2.1 M42 (u1) x3 x4 x8 r26 r39 (.int x8) (.int r26) (.int r39) (.int (1 : Int32)) v44 (u13) hG41 F43 (by omega) (by omega) (by omega) (by omega) (by omega) (by omega) (by omega) (by omega) (by omega) (by omega) (fun i z => by have z2 := g10 i z; rw [(F_n F40 (show ¬ (118 < 0) by decide) (F_n F27 (show ¬ (118 < 0) by decide) rfl))]; omega) (by omega)
        · refine to_i (pc := 130) rw_237_130 rfl (to_i (pc := 132) rw_237_132 rfl (b_cgt (pc := 134) rw_237_134 (A := r26.toInt) (B := x6.toInt) rfl rfl (fun h51 => ?_) (fun h51 => ?_)))
          · refine to_c (pc := 152) rw_237_152 (x := (0 : Int32)) rfl rfl (to_is (pc := 153) rw_237_153 (ls2 := [.ref 77, u1, .int w, .int x3, .int x4, .int x5, .int x6, .int x7, .int x8, .int r26, .int (0 : Int32), u11, u12, u13]) rfl rfl (to_i (pc := 155) rw_237_155 rfl (to_c (pc := 157) rw_237_157 (x := (-1 : Int32)) rfl rfl (b_ceq (pc := 158) rw_237_158 (A := x5.toInt) (B := -1) rfl rfl (fun h52 => ?_) (fun h52 => ?_)))))
            · refine to_c (pc := 196) rw_237_196 (x := (1 : Int32)) rfl rfl (to_go (pc := 197) rw_237_197 (to_is (pc := 201) rw_237_201 (ls2 := [.ref 77, u1, .int w, .int x3, .int x4, .int x5, .int x6, .int x7, .int x8, .int r26, .int (0 : Int32), .int (1 : Int32), u12, u13]) rfl rfl (to_i (pc := 203) rw_237_203 rfl (b_ieq_f (pc := 205) rw_237_205 (A := 1) rfl (by decide) (to_i (pc := 208) rw_237_208 rfl (to_is (pc := 210) rw_237_210 (ls2 := [.ref 77, u1, .int w, .int x3, .int x4, .int x8, .int x6, .int x7, .int x8, .int r26, .int (0 : Int32), .int (1 : Int32), u12, u13]) rfl rfl (to_i (pc := 212) rw_237_212 rfl (to_is (pc := 214) rw_237_214 (ls2 := [.ref 77, u1, .int w, .int x3, .int x4, .int x8, .int r26, .int x7, .int x8, .int r26, .int (0 : Int32), .int (1 : Int32), u12, u13]) rfl rfl (to_i (pc := 216) rw_237_216 rfl (to_is (pc := 218) rw_237_218 (ls2 := [.ref 77, u1, .int w, .int x3, .int x4, .int x8, .int r26, .int (0 : Int32), .int x8, .int r26, .int (0 : Int32), .int (1 : Int32), u12, u13]) rfl rfl (to_i (pc := 220) rw_237_220 rfl ?_)))))))))))
              refine to_c (pc := 222) rw_237_222 (x := (1 : Int32)) rfl rfl (s_sub (pc := 223) rw_237_223 (A := x4.toInt) (B := 1) rfl rfl (by omega) (fun v53 e54 => to_is (pc := 224) rw_237_224 (ls2 := [.ref 77, u1, .int w, .int x3, .int x4, .int x8, .int r26, .int (0 : Int32), .int x8, .int r26, .int (0 : Int32), .int (1 : Int32), .int v53, u13]) rfl rfl ?_))
              have k_55 : (0 : Int32).toInt = 0 := rfl
              have t_56 : (M29.2.1 83 (x3.toInt).toNat).toInt = (N.2.1 83 (x3.toInt).toNat).toInt := congrArg Int32.toInt (F_n F27 (show ¬ (83 < 0) by decide) rfl)
              have t_57 : (M29.2.1 82 (x3.toInt).toNat).toInt = (N.2.1 82 (x3.toInt).toNat).toInt := congrArg Int32.toInt (F_n F27 (show ¬ (82 < 0) by decide) rfl)
              have t_58 : (M29.2.1 82 (x3.toInt).toNat).toInt = (N.2.1 82 (x3.toInt).toNat).toInt := congrArg Int32.toInt (F_n F27 (show ¬ (82 < 0) by decide) rfl)
              have t_59 : (M29.2.1 83 (x3.toInt).toNat).toInt = (N.2.1 83 (x3.toInt).toNat).toInt := congrArg Int32.toInt (F_n F27 (show ¬ (83 < 0) by decide) rfl)
              have s_60 : PV M29 (x4.toInt).toNat = PV N (x4.toInt).toNat := PV_f _ (fun i z => (F_n F27 (show ¬ (118 < 0) by decide) rfl))
              exact ih.2.2.1 M29 (u1) x3 x4 x8 r26 (0 : Int32) (.int x8) (.int r26) (.int (0 : Int32)) (.int (1 : Int32)) v53 (u13) hG28 F30 (by omega) (by omega) (by omega) (by omega) (by omega) (by omega) (by omega) (by omega) (by omega) (by omega) (fun i z => by have z2 := g10 i z; rw [(F_n F27 (show ¬ (118 < 0) by decide) rfl)]; omega) (by omega)
            · refine to_i (pc := 161) rw_237_161 rfl (to_i (pc := 163) rw_237_163 rfl (b_clt (pc := 165) rw_237_165 (A := r26.toInt) (B := x6.toInt) rfl rfl (fun h61 => ?_) (fun h61 => ?_)))
              · refine to_c (pc := 196) rw_237_196 (x := (1 : Int32)) rfl rfl (to_go (pc := 197) rw_237_197 (to_is (pc := 201) rw_237_201 (ls2 := [.ref 77, u1, .int w, .int x3, .int x4, .int x5, .int x6, .int x7, .int x8, .int r26, .int (0 : Int32), .int (1 : Int32), u12, u13]) rfl rfl (to_i (pc := 203) rw_237_203 rfl (b_ieq_f (pc := 205) rw_237_205 (A := 1) rfl (by decide) (to_i (pc := 208) rw_237_208 rfl (to_is (pc := 210) rw_237_210 (ls2 := [.ref 77, u1, .int w, .int x3, .int x4, .int x8, .int x6, .int x7, .int x8, .int r26, .int (0 : Int32), .int (1 : Int32), u12, u13]) rfl rfl (to_i (pc := 212) rw_237_212 rfl (to_is (pc := 214) rw_237_214 (ls2 := [.ref 77, u1, .int w, .int x3, .int x4, .int x8, .int r26, .int x7, .int x8, .int r26, .int (0 : Int32), .int (1 : Int32), u12, u13]) rfl rfl (to_i (pc := 216) rw_237_216 rfl (to_is (pc := 218) rw_237_218 (ls2 := [.ref 77, u1, .int w, .int x3, .int x4, .int x8, .int r26, .int (0 : Int32), .int x8, .int r26, .int (0 : Int32), .int (1 : Int32), u12, u13]) rfl rfl (to_i (pc := 220) rw_237_220 rfl ?_)))))))))))
                refine to_c (pc := 222) rw_237_222 (x := (1 : Int32)) rfl rfl (s_sub (pc := 223) rw_237_223 (A := x4.toInt) (B := 1) rfl rfl (by omega) (fun v62 e63 => to_is (pc := 224) rw_237_224 (ls2 := [.ref 77, u1, .int w, .int x3, .int x4, .int x8, .int r26, .int (0 : Int32), .int x8, .int r26, .int (0 : Int32), .int (1 : Int32), .int v62, u13]) rfl rfl ?_))
                have k_64 : (0 : Int32).toInt = 0 := rfl
                have t_65 : (M29.2.1 83 (x3.toInt).toNat).toInt = (N.2.1 83 (x3.toInt).toNat).toInt := congrArg Int32.toInt (F_n F27 (show ¬ (83 < 0) by decide) rfl)
                have t_66 : (M29.2.1 82 (x3.toInt).toNat).toInt = (N.2.1 82 (x3.toInt).toNat).toInt := congrArg Int32.toInt (F_n F27 (show ¬ (82 < 0) by decide) rfl)
                have t_67 : (M29.2.1 82 (x3.toInt).toNat).toInt = (N.2.1 82 (x3.toInt).toNat).toInt := congrArg Int32.toInt (F_n F27 (show ¬ (82 < 0) by decide) rfl)
                have t_68 : (M29.2.1 83 (x3.toInt).toNat).toInt = (N.2.1 83 (x3.toInt).toNat).toInt := congrArg Int32.toInt (F_n F27 (show ¬ (83 < 0) by decide) rfl)
                have s_69 : PV M29 (x4.toInt).toNat = PV N (x4.toInt).toNat := PV_f _ (fun i z => (F_n F27 (show ¬ (118 < 0) by decide) rfl))
                exact ih.2.2.1 M29 (u1) x3 x4 x8 r26 (0 : Int32) (.int x8) (.int r26) (.int (0 : Int32)) (.int (1 : Int32)) v62 (u13) hG28 F30 (by omega) (by omega) (by omega) (by omega) (by omega) (by omega) (by omega) (by omega) (by omega) (by omega) (fun i z => by have z2 := g10 i z; rw [(F_n F27 (show ¬ (118 < 0) by decide) rfl)]; omega) (by omega)
              · refine to_i (pc := 168) rw_237_168 rfl (to_i (pc := 170) rw_237_170 rfl (b_cne (pc := 172) rw_237_172 (A := r26.toInt) (B := x6.toInt) rfl rfl (fun h70 => ?_) (fun h70 => ?_)))
                · refine to_c (pc := 200) rw_237_200 (x := (0 : Int32)) rfl rfl (to_is (pc := 201) rw_237_201 (ls2 := [.ref 77, u1, .int w, .int x3, .int x4, .int x5, .int x6, .int x7, .int x8, .int r26, .int (0 : Int32), .int (0 : Int32), u12, u13]) rfl rfl (to_i (pc := 203) rw_237_203 rfl (b_ieq_t (pc := 205) rw_237_205 (A := 0) rfl (by decide) (to_i (pc := 220) rw_237_220 rfl (to_c (pc := 222) rw_237_222 (x := (1 : Int32)) rfl rfl (s_sub (pc := 223) rw_237_223 (A := x4.toInt) (B := 1) rfl rfl (by omega) (fun v71 e72 => to_is (pc := 224) rw_237_224 (ls2 := [.ref 77, u1, .int w, .int x3, .int x4, .int x5, .int x6, .int x7, .int x8, .int r26, .int (0 : Int32), .int (0 : Int32), .int v71, u13]) rfl rfl ?_)))))))
                  have t_73 : (M29.2.1 83 (x3.toInt).toNat).toInt = (N.2.1 83 (x3.toInt).toNat).toInt := congrArg Int32.toInt (F_n F27 (show ¬ (83 < 0) by decide) rfl)
                  have t_74 : (M29.2.1 82 (x3.toInt).toNat).toInt = (N.2.1 82 (x3.toInt).toNat).toInt := congrArg Int32.toInt (F_n F27 (show ¬ (82 < 0) by decide) rfl)
                  have t_75 : (M29.2.1 82 (x3.toInt).toNat).toInt = (N.2.1 82 (x3.toInt).toNat).toInt := congrArg Int32.toInt (F_n F27 (show ¬ (82 < 0) by decide) rfl)
                  have t_76 : (M29.2.1 83 (x3.toInt).toNat).toInt = (N.2.1 83 (x3.toInt).toNat).toInt := congrArg Int32.toInt (F_n F27 (show ¬ (83 < 0) by decide) rfl)
                  have s_77 : PV M29 (x4.toInt).toNat = PV N (x4.toInt).toNat := PV_f _ (fun i z => (F_n F27 (show ¬ (118 < 0) by decide) rfl))
                  exact ih.2.2.1 M29 (u1) x3 x4 x5 x6 x7 (.int x8) (.int r26) (.int (0 : Int32)) (.int (0 : Int32)) v71 (u13) hG28 F30 (by omega) (by omega) (by omega) (by omega) (by omega) (by omega) (by omega) (by omega) (by omega) (by omega) (fun i z => by have z2 := g10 i z; rw [(F_n F27 (show ¬ (118 < 0) by decide) rfl)]; omega) (by omega)
                · refine to_i (pc := 175) rw_237_175 rfl (to_i (pc := 177) rw_237_177 rfl (b_clt (pc := 179) rw_237_179 (A := 0) (B := x7.toInt) rfl rfl (fun h78 => ?_) (fun h78 => ?_)))
                  · refine to_c (pc := 196) rw_237_196 (x := (1 : Int32)) rfl rfl (to_go (pc := 197) rw_237_197 (to_is (pc := 201) rw_237_201 (ls2 := [.ref 77, u1, .int w, .int x3, .int x4, .int x5, .int x6, .int x7, .int x8, .int r26, .int (0 : Int32), .int (1 : Int32), u12, u13]) rfl rfl (to_i (pc := 203) rw_237_203 rfl (b_ieq_f (pc := 205) rw_237_205 (A := 1) rfl (by decide) (to_i (pc := 208) rw_237_208 rfl (to_is (pc := 210) rw_237_210 (ls2 := [.ref 77, u1, .int w, .int x3, .int x4, .int x8, .int x6, .int x7, .int x8, .int r26, .int (0 : Int32), .int (1 : Int32), u12, u13]) rfl rfl (to_i (pc := 212) rw_237_212 rfl (to_is (pc := 214) rw_237_214 (ls2 := [.ref 77, u1, .int w, .int x3, .int x4, .int x8, .int r26, .int x7, .int x8, .int r26, .int (0 : Int32), .int (1 : Int32), u12, u13]) rfl rfl (to_i (pc := 216) rw_237_216 rfl (to_is (pc := 218) rw_237_218 (ls2 := [.ref 77, u1, .int w, .int x3, .int x4, .int x8, .int r26, .int (0 : Int32), .int x8, .int r26, .int (0 : Int32), .int (1 : Int32), u12, u13]) rfl rfl (to_i (pc := 220) rw_237_220 rfl ?_)))))))))))
                    refine to_c (pc := 222) rw_237_222 (x := (1 : Int32)) rfl rfl (s_sub (pc := 223) rw_237_223 (A := x4.toInt) (B := 1) rfl rfl (by omega) (fun v79 e80 => to_is (pc := 224) rw_237_224 (ls2 := [.ref 77, u1, .int w, .int x3, .int x4, .int x8, .int r26, .int (0 : Int32), .int x8, .int r26, .int (0 : Int32), .int (1 : Int32), .int v79, u13]) rfl rfl ?_))
                    have k_81 : (0 : Int32).toInt = 0 := rfl
                    have t_82 : (M29.2.1 83 (x3.toInt).toNat).toInt = (N.2.1 83 (x3.toInt).toNat).toInt := congrArg Int32.toInt (F_n F27 (show ¬ (83 < 0) by decide) rfl)
                    have t_83 : (M29.2.1 82 (x3.toInt).toNat).toInt = (N.2.1 82 (x3.toInt).toNat).toInt := congrArg Int32.toInt (F_n F27 (show ¬ (82 < 0) by decide) rfl)
                    have t_84 : (M29.2.1 82 (x3.toInt).toNat).toInt = (N.2.1 82 (x3.toInt).toNat).toInt := congrArg Int32.toInt (F_n F27 (show ¬ (82 < 0) by decide) rfl)
                    have t_85 : (M29.2.1 83 (x3.toInt).toNat).toInt = (N.2.1 83 (x3.toInt).toNat).toInt := congrArg Int32.toInt (F_n F27 (show ¬ (83 < 0) by decide) rfl)
                    have s_86 : PV M29 (x4.toInt).toNat = PV N (x4.toInt).toNat := PV_f _ (fun i z => (F_n F27 (show ¬ (118 < 0) by decide) rfl))
                    exact ih.2.2.1 M29 (u1) x3 x4 x8 r26 (0 : Int32) (.int x8) (.int r26) (.int (0 : Int32)) (.int (1 : Int32)) v79 (u13) hG28 F30 (by omega) (by omega) (by omega) (by omega) (by omega) (by omega) (by omega) (by omega) (by omega) (by omega) (fun i z => by have z2 := g10 i z; rw [(F_n F27 (show ¬ (118 < 0) by decide) rfl)]; omega) (by omega)
                  · refine to_i (pc := 182) rw_237_182 rfl (to_i (pc := 184) rw_237_184 rfl (b_cne (pc := 186) rw_237_186 (A := 0) (B := x7.toInt) rfl rfl (fun h87 => ?_) (fun h87 => ?_)))
                    · refine to_c (pc := 200) rw_237_200 (x := (0 : Int32)) rfl rfl (to_is (pc := 201) rw_237_201 (ls2 := [.ref 77, u1, .int w, .int x3, .int x4, .int x5, .int x6, .int x7, .int x8, .int r26, .int (0 : Int32), .int (0 : Int32), u12, u13]) rfl rfl (to_i (pc := 203) rw_237_203 rfl (b_ieq_t (pc := 205) rw_237_205 (A := 0) rfl (by decide) (to_i (pc := 220) rw_237_220 rfl (to_c (pc := 222) rw_237_222 (x := (1 : Int32)) rfl rfl (s_sub (pc := 223) rw_237_223 (A := x4.toInt) (B := 1) rfl rfl (by omega) (fun v88 e89 => to_is (pc := 224) rw_237_224 (ls2 := [.ref 77, u1, .int w, .int x3, .int x4, .int x5, .int x6, .int x7, .int x8, .int r26, .int (0 : Int32), .int (0 : Int32), .int v88, u13]) rfl rfl ?_)))))))
                      have t_90 : (M29.2.1 83 (x3.toInt).toNat).toInt = (N.2.1 83 (x3.toInt).toNat).toInt := congrArg Int32.toInt (F_n F27 (show ¬ (83 < 0) by decide) rfl)
                      have t_91 : (M29.2.1 82 (x3.toInt).toNat).toInt = (N.2.1 82 (x3.toInt).toNat).toInt := congrArg Int32.toInt (F_n F27 (show ¬ (82 < 0) by decide) rfl)
                      have t_92 : (M29.2.1 82 (x3.toInt).toNat).toInt = (N.2.1 82 (x3.toInt).toNat).toInt := congrArg Int32.toInt (F_n F27 (show ¬ (82 < 0) by decide) rfl)
                      have t_93 : (M29.2.1 83 (x3.toInt).toNat).toInt = (N.2.1 83 (x3.toInt).toNat).toInt := congrArg Int32.toInt (F_n F27 (show ¬ (83 < 0) by decide) rfl)
                      have s_94 : PV M29 (x4.toInt).toNat = PV N (x4.toInt).toNat := PV_f _ (fun i z => (F_n F27 (show ¬ (118 < 0) by decide) rfl))
                      exact ih.2.2.1 M29 (u1) x3 x4 x5 x6 x7 (.int x8) (.int r26) (.int (0 : Int32)) (.int (0 : Int32)) v88 (u13) hG28 F30 (by omega) (by omega) (by omega) (by omega) (by omega) (by omega) (by omega) (by omega) (by omega) (by omega) (fun i z => by have z2 := g10 i z; rw [(F_n F27 (show ¬ (118 < 0) by decide) rfl)]; omega) (by omega)
                    · refine to_i (pc := 189) rw_237_189 rfl (to_i (pc := 191) rw_237_191 rfl (b_cge (pc := 193) rw_237_193 (A := x8.toInt) (B := x5.toInt) rfl rfl (fun h95 => ?_) (fun h95 => ?_)))
                      · refine to_c (pc := 200) rw_237_200 (x := (0 : Int32)) rfl rfl (to_is (pc := 201) rw_237_201 (ls2 := [.ref 77, u1, .int w, .int x3, .int x4, .int x5, .int x6, .int x7, .int x8, .int r26, .int (0 : Int32), .int (0 : Int32), u12, u13]) rfl rfl (to_i (pc := 203) rw_237_203 rfl (b_ieq_t (pc := 205) rw_237_205 (A := 0) rfl (by decide) (to_i (pc := 220) rw_237_220 rfl (to_c (pc := 222) rw_237_222 (x := (1 : Int32)) rfl rfl (s_sub (pc := 223) rw_237_223 (A := x4.toInt) (B := 1) rfl rfl (by omega) (fun v96 e97 => to_is (pc := 224) rw_237_224 (ls2 := [.ref 77, u1, .int w, .int x3, .int x4, .int x5, .int x6, .int x7, .int x8, .int r26, .int (0 : Int32), .int (0 : Int32), .int v96, u13]) rfl rfl ?_)))))))
                        have t_98 : (M29.2.1 83 (x3.toInt).toNat).toInt = (N.2.1 83 (x3.toInt).toNat).toInt := congrArg Int32.toInt (F_n F27 (show ¬ (83 < 0) by decide) rfl)
                        have t_99 : (M29.2.1 82 (x3.toInt).toNat).toInt = (N.2.1 82 (x3.toInt).toNat).toInt := congrArg Int32.toInt (F_n F27 (show ¬ (82 < 0) by decide) rfl)
                        have t_100 : (M29.2.1 82 (x3.toInt).toNat).toInt = (N.2.1 82 (x3.toInt).toNat).toInt := congrArg Int32.toInt (F_n F27 (show ¬ (82 < 0) by decide) rfl)
                        have t_101 : (M29.2.1 83 (x3.toInt).toNat).toInt = (N.2.1 83 (x3.toInt).toNat).toInt := congrArg Int32.toInt (F_n F27 (show ¬ (83 < 0) by decide) rfl)
                        have s_102 : PV M29 (x4.toInt).toNat = PV N (x4.toInt).toNat := PV_f _ (fun i z => (F_n F27 (show ¬ (118 < 0) by decide) rfl))
                        exact ih.2.2.1 M29 (u1) x3 x4 x5 x6 x7 (.int x8) (.int r26) (.int (0 : Int32)) (.int (0 : Int32)) v96 (u13) hG28 F30 (by omega) (by omega) (by omega) (by omega) (by omega) (by omega) (by omega) (by omega) (by omega) (by omega) (fun i z => by have z2 := g10 i z; rw [(F_n F27 (show ¬ (118 < 0) by decide) rfl)]; omega) (by omega)
                      · refine to_c (pc := 196) rw_237_196 (x := (1 : Int32)) rfl rfl (to_go (pc := 197) rw_237_197 (to_is (pc := 201) rw_237_201 (ls2 := [.ref 77, u1, .int w, .int x3, .int x4, .int x5, .int x6, .int x7, .int x8, .int r26, .int (0 : Int32), .int (1 : Int32), u12, u13]) rfl rfl (to_i (pc := 203) rw_237_203 rfl (b_ieq_f (pc := 205) rw_237_205 (A := 1) rfl (by decide) (to_i (pc := 208) rw_237_208 rfl (to_is (pc := 210) rw_237_210 (ls2 := [.ref 77, u1, .int w, .int x3, .int x4, .int x8, .int x6, .int x7, .int x8, .int r26, .int (0 : Int32), .int (1 : Int32), u12, u13]) rfl rfl (to_i (pc := 212) rw_237_212 rfl (to_is (pc := 214) rw_237_214 (ls2 := [.ref 77, u1, .int w, .int x3, .int x4, .int x8, .int r26, .int x7, .int x8, .int r26, .int (0 : Int32), .int (1 : Int32), u12, u13]) rfl rfl (to_i (pc := 216) rw_237_216 rfl (to_is (pc := 218) rw_237_218 (ls2 := [.ref 77, u1, .int w, .int x3, .int x4, .int x8, .int r26, .int (0 : Int32), .int x8, .int r26, .int (0 : Int32), .int (1 : Int32), u12, u13]) rfl rfl (to_i (pc := 220) rw_237_220 rfl ?_)))))))))))
                        refine to_c (pc := 222) rw_237_222 (x := (1 : Int32)) rfl rfl (s_sub (pc := 223) rw_237_223 (A := x4.toInt) (B := 1) rfl rfl (by omega) (fun v103 e104 => to_is (pc := 224) rw_237_224 (ls2 := [.ref 77, u1, .int w, .int x3, .int x4, .int x8, .int r26, .int (0 : Int32), .int x8, .int r26, .int (0 : Int32), .int (1 : Int32), .int v103, u13]) rfl rfl ?_))
                        have k_105 : (0 : Int32).toInt = 0 := rfl
                        have t_106 : (M29.2.1 83 (x3.toInt).toNat).toInt = (N.2.1 83 (x3.toInt).toNat).toInt := congrArg Int32.toInt (F_n F27 (show ¬ (83 < 0) by decide) rfl)
                        have t_107 : (M29.2.1 82 (x3.toInt).toNat).toInt = (N.2.1 82 (x3.toInt).toNat).toInt := congrArg Int32.toInt (F_n F27 (show ¬ (82 < 0) by decide) rfl)
                        have t_108 : (M29.2.1 82 (x3.toInt).toNat).toInt = (N.2.1 82 (x3.toInt).toNat).toInt := congrArg Int32.toInt (F_n F27 (show ¬ (82 < 0) by decide) rfl)
                        have t_109 : (M29.2.1 83 (x3.toInt).toNat).toInt = (N.2.1 83 (x3.toInt).toNat).toInt := congrArg Int32.toInt (F_n F27 (show ¬ (83 < 0) by decide) rfl)
                        have s_110 : PV M29 (x4.toInt).toNat = PV N (x4.toInt).toNat := PV_f _ (fun i z => (F_n F27 (show ¬ (118 < 0) by decide) rfl))
                        exact ih.2.2.1 M29 (u1) x3 x4 x8 r26 (0 : Int32) (.int x8) (.int r26) (.int (0 : Int32)) (.int (1 : Int32)) v103 (u13) hG28 F30 (by omega) (by omega) (by omega) (by omega) (by omega) (by omega) (by omega) (by omega) (by omega) (by omega) (fun i z => by have z2 := g10 i z; rw [(F_n F27 (show ¬ (118 < 0) by decide) rfl)]; omega) (by omega)
          · refine to_an (pc := 137) rw_237_137 rfl (to_in (pc := 138) rw_237_138 rfl (to_an (pc := 139) rw_237_139 rfl (to_in (pc := 140) rw_237_140 rfl (to_i (pc := 141) rw_237_141 rfl (s_v (pc := 143) rw_237_143 (dp0 hd (by decide)) (ls0 := [.ref 77, .int w, .int x8]) rfl (Nat.le_of_ble_eq_true rfl) (Nat.le_of_ble_eq_true rfl) rfl (to_rc rfl rfl rfl (g_o hG28 rfl)) rfl (to_in (pc := 0) rw_188_0 rfl (s_i2l (pc := 1) rw_188_1 (fun l111 e112 => to_an (pc := 2) rw_188_2 rfl (s_gR (pc := 3) rw_188_3 hG28 rfl (v := 82) rfl (to_an (pc := 6) rw_188_6 rfl (s_gR (pc := 7) rw_188_7 hG28 rfl (v := 86) rfl ?_)))))))))))
            refine to_in (pc := 10) rw_188_10 rfl (s_ialk (pc := 11) rw_188_11 hG28 rfl (n := 24) rfl rfl (A := w.toInt) rfl (by omega) (by omega) (v := v20) (F_n F27 (show ¬ (86 < 0) by decide) w_21) (s_ialk (pc := 12) rw_188_12 hG28 rfl (n := 16) rfl rfl (A := v20.toInt) rfl (by omega) (by omega) (v := v22) (F_n F27 (show ¬ (82 < 0) by decide) w_23) (s_anyS (pc := 13) rw_188_13 (fun _ _ => rfl) (fun l117 => to_rl (pc := 14) rw_188_14 (s_v (pc := 146) rw_237_146 (dp0 hd (by decide)) (ls0 := [.ref 77, .int w, .long l117, .null, .null, .null]) rfl (Nat.le_of_ble_eq_true rfl) (Nat.le_of_ble_eq_true rfl) rfl (to_rc rfl rfl rfl (g_o hG28 rfl)) rfl (C_236 hX (dp1 hd (by decide)) hG28 (w := w) (x := l117) (fun r118 M121 hG120 F119 => ?_)))))))
            have F122 := FR.c F30 F119 tg_356
            refine to_go (pc := 149) rw_237_149 (to_is (pc := 153) rw_237_153 (ls2 := [.ref 77, u1, .int w, .int x3, .int x4, .int x5, .int x6, .int x7, .int x8, .int r26, .int r118, u11, u12, u13]) rfl rfl (to_i (pc := 155) rw_237_155 rfl (to_c (pc := 157) rw_237_157 (x := (-1 : Int32)) rfl rfl (b_ceq (pc := 158) rw_237_158 (A := x5.toInt) (B := -1) rfl rfl (fun h123 => ?_) (fun h123 => ?_)))))
            · refine to_c (pc := 196) rw_237_196 (x := (1 : Int32)) rfl rfl (to_go (pc := 197) rw_237_197 (to_is (pc := 201) rw_237_201 (ls2 := [.ref 77, u1, .int w, .int x3, .int x4, .int x5, .int x6, .int x7, .int x8, .int r26, .int r118, .int (1 : Int32), u12, u13]) rfl rfl (to_i (pc := 203) rw_237_203 rfl (b_ieq_f (pc := 205) rw_237_205 (A := 1) rfl (by decide) (to_i (pc := 208) rw_237_208 rfl (to_is (pc := 210) rw_237_210 (ls2 := [.ref 77, u1, .int w, .int x3, .int x4, .int x8, .int x6, .int x7, .int x8, .int r26, .int r118, .int (1 : Int32), u12, u13]) rfl rfl (to_i (pc := 212) rw_237_212 rfl (to_is (pc := 214) rw_237_214 (ls2 := [.ref 77, u1, .int w, .int x3, .int x4, .int x8, .int r26, .int x7, .int x8, .int r26, .int r118, .int (1 : Int32), u12, u13]) rfl rfl (to_i (pc := 216) rw_237_216 rfl (to_is (pc := 218) rw_237_218 (ls2 := [.ref 77, u1, .int w, .int x3, .int x4, .int x8, .int r26, .int r118, .int x8, .int r26, .int r118, .int (1 : Int32), u12, u13]) rfl rfl (to_i (pc := 220) rw_237_220 rfl ?_)))))))))))
              refine to_c (pc := 222) rw_237_222 (x := (1 : Int32)) rfl rfl (s_sub (pc := 223) rw_237_223 (A := x4.toInt) (B := 1) rfl rfl (by omega) (fun v124 e125 => to_is (pc := 224) rw_237_224 (ls2 := [.ref 77, u1, .int w, .int x3, .int x4, .int x8, .int r26, .int r118, .int x8, .int r26, .int r118, .int (1 : Int32), .int v124, u13]) rfl rfl ?_))
              have t_126 : (M121.2.1 83 (x3.toInt).toNat).toInt = (N.2.1 83 (x3.toInt).toNat).toInt := congrArg Int32.toInt (F_n F119 (show ¬ (83 < 0) by decide) (F_n F27 (show ¬ (83 < 0) by decide) rfl))
              have t_127 : (M121.2.1 82 (x3.toInt).toNat).toInt = (N.2.1 82 (x3.toInt).toNat).toInt := congrArg Int32.toInt (F_n F119 (show ¬ (82 < 0) by decide) (F_n F27 (show ¬ (82 < 0) by decide) rfl))
              have t_128 : (M121.2.1 82 (x3.toInt).toNat).toInt = (N.2.1 82 (x3.toInt).toNat).toInt := congrArg Int32.toInt (F_n F119 (show ¬ (82 < 0) by decide) (F_n F27 (show ¬ (82 < 0) by decide) rfl))
              have t_129 : (M121.2.1 83 (x3.toInt).toNat).toInt = (N.2.1 83 (x3.toInt).toNat).toInt := congrArg Int32.toInt (F_n F119 (show ¬ (83 < 0) by decide) (F_n F27 (show ¬ (83 < 0) by decide) rfl))
              have s_130 : PV M121 (x4.toInt).toNat = PV N (x4.toInt).toNat := PV_f _ (fun i z => (F_n F119 (show ¬ (118 < 0) by decide) (F_n F27 (show ¬ (118 < 0) by decide) rfl)))
              exact ih.2.2.1 M121 (u1) x3 x4 x8 r26 r118 (.int x8) (.int r26) (.int r118) (.int (1 : Int32)) v124 (u13) hG120 F122 (by omega) (by omega) (by omega) (by omega) (by omega) (by omega) (by omega) (by omega) (by omega) (by omega) (fun i z => by have z2 := g10 i z; rw [(F_n F119 (show ¬ (118 < 0) by decide) (F_n F27 (show ¬ (118 < 0) by decide) rfl))]; omega) (by omega)
            · refine to_i (pc := 161) rw_237_161 rfl (to_i (pc := 163) rw_237_163 rfl (b_clt (pc := 165) rw_237_165 (A := r26.toInt) (B := x6.toInt) rfl rfl (fun h131 => ?_) (fun h131 => ?_)))
              · refine to_c (pc := 196) rw_237_196 (x := (1 : Int32)) rfl rfl (to_go (pc := 197) rw_237_197 (to_is (pc := 201) rw_237_201 (ls2 := [.ref 77, u1, .int w, .int x3, .int x4, .int x5, .int x6, .int x7, .int x8, .int r26, .int r118, .int (1 : Int32), u12, u13]) rfl rfl (to_i (pc := 203) rw_237_203 rfl (b_ieq_f (pc := 205) rw_237_205 (A := 1) rfl (by decide) (to_i (pc := 208) rw_237_208 rfl (to_is (pc := 210) rw_237_210 (ls2 := [.ref 77, u1, .int w, .int x3, .int x4, .int x8, .int x6, .int x7, .int x8, .int r26, .int r118, .int (1 : Int32), u12, u13]) rfl rfl (to_i (pc := 212) rw_237_212 rfl (to_is (pc := 214) rw_237_214 (ls2 := [.ref 77, u1, .int w, .int x3, .int x4, .int x8, .int r26, .int x7, .int x8, .int r26, .int r118, .int (1 : Int32), u12, u13]) rfl rfl (to_i (pc := 216) rw_237_216 rfl (to_is (pc := 218) rw_237_218 (ls2 := [.ref 77, u1, .int w, .int x3, .int x4, .int x8, .int r26, .int r118, .int x8, .int r26, .int r118, .int (1 : Int32), u12, u13]) rfl rfl (to_i (pc := 220) rw_237_220 rfl ?_)))))))))))
                refine to_c (pc := 222) rw_237_222 (x := (1 : Int32)) rfl rfl (s_sub (pc := 223) rw_237_223 (A := x4.toInt) (B := 1) rfl rfl (by omega) (fun v132 e133 => to_is (pc := 224) rw_237_224 (ls2 := [.ref 77, u1, .int w, .int x3, .int x4, .int x8, .int r26, .int r118, .int x8, .int r26, .int r118, .int (1 : Int32), .int v132, u13]) rfl rfl ?_))
                have t_134 : (M121.2.1 83 (x3.toInt).toNat).toInt = (N.2.1 83 (x3.toInt).toNat).toInt := congrArg Int32.toInt (F_n F119 (show ¬ (83 < 0) by decide) (F_n F27 (show ¬ (83 < 0) by decide) rfl))
                have t_135 : (M121.2.1 82 (x3.toInt).toNat).toInt = (N.2.1 82 (x3.toInt).toNat).toInt := congrArg Int32.toInt (F_n F119 (show ¬ (82 < 0) by decide) (F_n F27 (show ¬ (82 < 0) by decide) rfl))
                have t_136 : (M121.2.1 82 (x3.toInt).toNat).toInt = (N.2.1 82 (x3.toInt).toNat).toInt := congrArg Int32.toInt (F_n F119 (show ¬ (82 < 0) by decide) (F_n F27 (show ¬ (82 < 0) by decide) rfl))
                have t_137 : (M121.2.1 83 (x3.toInt).toNat).toInt = (N.2.1 83 (x3.toInt).toNat).toInt := congrArg Int32.toInt (F_n F119 (show ¬ (83 < 0) by decide) (F_n F27 (show ¬ (83 < 0) by decide) rfl))
                have s_138 : PV M121 (x4.toInt).toNat = PV N (x4.toInt).toNat := PV_f _ (fun i z => (F_n F119 (show ¬ (118 < 0) by decide) (F_n F27 (show ¬ (118 < 0) by decide) rfl)))
                exact ih.2.2.1 M121 (u1) x3 x4 x8 r26 r118 (.int x8) (.int r26) (.int r118) (.int (1 : Int32)) v132 (u13) hG120 F122 (by omega) (by omega) (by omega) (by omega) (by omega) (by omega) (by omega) (by omega) (by omega) (by omega) (fun i z => by have z2 := g10 i z; rw [(F_n F119 (show ¬ (118 < 0) by decide) (F_n F27 (show ¬ (118 < 0) by decide) rfl))]; omega) (by omega)
              · refine to_i (pc := 168) rw_237_168 rfl (to_i (pc := 170) rw_237_170 rfl (b_cne (pc := 172) rw_237_172 (A := r26.toInt) (B := x6.toInt) rfl rfl (fun h139 => ?_) (fun h139 => ?_)))
                · refine to_c (pc := 200) rw_237_200 (x := (0 : Int32)) rfl rfl (to_is (pc := 201) rw_237_201 (ls2 := [.ref 77, u1, .int w, .int x3, .int x4, .int x5, .int x6, .int x7, .int x8, .int r26, .int r118, .int (0 : Int32), u12, u13]) rfl rfl (to_i (pc := 203) rw_237_203 rfl (b_ieq_t (pc := 205) rw_237_205 (A := 0) rfl (by decide) (to_i (pc := 220) rw_237_220 rfl (to_c (pc := 222) rw_237_222 (x := (1 : Int32)) rfl rfl (s_sub (pc := 223) rw_237_223 (A := x4.toInt) (B := 1) rfl rfl (by omega) (fun v140 e141 => to_is (pc := 224) rw_237_224 (ls2 := [.ref 77, u1, .int w, .int x3, .int x4, .int x5, .int x6, .int x7, .int x8, .int r26, .int r118, .int (0 : Int32), .int v140, u13]) rfl rfl ?_)))))))
                  have t_142 : (M121.2.1 83 (x3.toInt).toNat).toInt = (N.2.1 83 (x3.toInt).toNat).toInt := congrArg Int32.toInt (F_n F119 (show ¬ (83 < 0) by decide) (F_n F27 (show ¬ (83 < 0) by decide) rfl))
                  have t_143 : (M121.2.1 82 (x3.toInt).toNat).toInt = (N.2.1 82 (x3.toInt).toNat).toInt := congrArg Int32.toInt (F_n F119 (show ¬ (82 < 0) by decide) (F_n F27 (show ¬ (82 < 0) by decide) rfl))
                  have t_144 : (M121.2.1 82 (x3.toInt).toNat).toInt = (N.2.1 82 (x3.toInt).toNat).toInt := congrArg Int32.toInt (F_n F119 (show ¬ (82 < 0) by decide) (F_n F27 (show ¬ (82 < 0) by decide) rfl))
                  have t_145 : (M121.2.1 83 (x3.toInt).toNat).toInt = (N.2.1 83 (x3.toInt).toNat).toInt := congrArg Int32.toInt (F_n F119 (show ¬ (83 < 0) by decide) (F_n F27 (show ¬ (83 < 0) by decide) rfl))
                  have s_146 : PV M121 (x4.toInt).toNat = PV N (x4.toInt).toNat := PV_f _ (fun i z => (F_n F119 (show ¬ (118 < 0) by decide) (F_n F27 (show ¬ (118 < 0) by decide) rfl)))
                  exact ih.2.2.1 M121 (u1) x3 x4 x5 x6 x7 (.int x8) (.int r26) (.int r118) (.int (0 : Int32)) v140 (u13) hG120 F122 (by omega) (by omega) (by omega) (by omega) (by omega) (by omega) (by omega) (by omega) (by omega) (by omega) (fun i z => by have z2 := g10 i z; rw [(F_n F119 (show ¬ (118 < 0) by decide) (F_n F27 (show ¬ (118 < 0) by decide) rfl))]; omega) (by omega)
                · refine to_i (pc := 175) rw_237_175 rfl (to_i (pc := 177) rw_237_177 rfl (b_clt (pc := 179) rw_237_179 (A := r118.toInt) (B := x7.toInt) rfl rfl (fun h147 => ?_) (fun h147 => ?_)))
                  · refine to_c (pc := 196) rw_237_196 (x := (1 : Int32)) rfl rfl (to_go (pc := 197) rw_237_197 (to_is (pc := 201) rw_237_201 (ls2 := [.ref 77, u1, .int w, .int x3, .int x4, .int x5, .int x6, .int x7, .int x8, .int r26, .int r118, .int (1 : Int32), u12, u13]) rfl rfl (to_i (pc := 203) rw_237_203 rfl (b_ieq_f (pc := 205) rw_237_205 (A := 1) rfl (by decide) (to_i (pc := 208) rw_237_208 rfl (to_is (pc := 210) rw_237_210 (ls2 := [.ref 77, u1, .int w, .int x3, .int x4, .int x8, .int x6, .int x7, .int x8, .int r26, .int r118, .int (1 : Int32), u12, u13]) rfl rfl (to_i (pc := 212) rw_237_212 rfl (to_is (pc := 214) rw_237_214 (ls2 := [.ref 77, u1, .int w, .int x3, .int x4, .int x8, .int r26, .int x7, .int x8, .int r26, .int r118, .int (1 : Int32), u12, u13]) rfl rfl (to_i (pc := 216) rw_237_216 rfl (to_is (pc := 218) rw_237_218 (ls2 := [.ref 77, u1, .int w, .int x3, .int x4, .int x8, .int r26, .int r118, .int x8, .int r26, .int r118, .int (1 : Int32), u12, u13]) rfl rfl (to_i (pc := 220) rw_237_220 rfl ?_)))))))))))
                    refine to_c (pc := 222) rw_237_222 (x := (1 : Int32)) rfl rfl (s_sub (pc := 223) rw_237_223 (A := x4.toInt) (B := 1) rfl rfl (by omega) (fun v148 e149 => to_is (pc := 224) rw_237_224 (ls2 := [.ref 77, u1, .int w, .int x3, .int x4, .int x8, .int r26, .int r118, .int x8, .int r26, .int r118, .int (1 : Int32), .int v148, u13]) rfl rfl ?_))
                    have t_150 : (M121.2.1 83 (x3.toInt).toNat).toInt = (N.2.1 83 (x3.toInt).toNat).toInt := congrArg Int32.toInt (F_n F119 (show ¬ (83 < 0) by decide) (F_n F27 (show ¬ (83 < 0) by decide) rfl))
                    have t_151 : (M121.2.1 82 (x3.toInt).toNat).toInt = (N.2.1 82 (x3.toInt).toNat).toInt := congrArg Int32.toInt (F_n F119 (show ¬ (82 < 0) by decide) (F_n F27 (show ¬ (82 < 0) by decide) rfl))
                    have t_152 : (M121.2.1 82 (x3.toInt).toNat).toInt = (N.2.1 82 (x3.toInt).toNat).toInt := congrArg Int32.toInt (F_n F119 (show ¬ (82 < 0) by decide) (F_n F27 (show ¬ (82 < 0) by decide) rfl))
                    have t_153 : (M121.2.1 83 (x3.toInt).toNat).toInt = (N.2.1 83 (x3.toInt).toNat).toInt := congrArg Int32.toInt (F_n F119 (show ¬ (83 < 0) by decide) (F_n F27 (show ¬ (83 < 0) by decide) rfl))
                    have s_154 : PV M121 (x4.toInt).toNat = PV N (x4.toInt).toNat := PV_f _ (fun i z => (F_n F119 (show ¬ (118 < 0) by decide) (F_n F27 (show ¬ (118 < 0) by decide) rfl)))
                    exact ih.2.2.1 M121 (u1) x3 x4 x8 r26 r118 (.int x8) (.int r26) (.int r118) (.int (1 : Int32)) v148 (u13) hG120 F122 (by omega) (by omega) (by omega) (by omega) (by omega) (by omega) (by omega) (by omega) (by omega) (by omega) (fun i z => by have z2 := g10 i z; rw [(F_n F119 (show ¬ (118 < 0) by decide) (F_n F27 (show ¬ (118 < 0) by decide) rfl))]; omega) (by omega)
                  · refine to_i (pc := 182) rw_237_182 rfl (to_i (pc := 184) rw_237_184 rfl (b_cne (pc := 186) rw_237_186 (A := r118.toInt) (B := x7.toInt) rfl rfl (fun h155 => ?_) (fun h155 => ?_)))
                    · refine to_c (pc := 200) rw_237_200 (x := (0 : Int32)) rfl rfl (to_is (pc := 201) rw_237_201 (ls2 := [.ref 77, u1, .int w, .int x3, .int x4, .int x5, .int x6, .int x7, .int x8, .int r26, .int r118, .int (0 : Int32), u12, u13]) rfl rfl (to_i (pc := 203) rw_237_203 rfl (b_ieq_t (pc := 205) rw_237_205 (A := 0) rfl (by decide) (to_i (pc := 220) rw_237_220 rfl (to_c (pc := 222) rw_237_222 (x := (1 : Int32)) rfl rfl (s_sub (pc := 223) rw_237_223 (A := x4.toInt) (B := 1) rfl rfl (by omega) (fun v156 e157 => to_is (pc := 224) rw_237_224 (ls2 := [.ref 77, u1, .int w, .int x3, .int x4, .int x5, .int x6, .int x7, .int x8, .int r26, .int r118, .int (0 : Int32), .int v156, u13]) rfl rfl ?_)))))))
                      have t_158 : (M121.2.1 83 (x3.toInt).toNat).toInt = (N.2.1 83 (x3.toInt).toNat).toInt := congrArg Int32.toInt (F_n F119 (show ¬ (83 < 0) by decide) (F_n F27 (show ¬ (83 < 0) by decide) rfl))
                      have t_159 : (M121.2.1 82 (x3.toInt).toNat).toInt = (N.2.1 82 (x3.toInt).toNat).toInt := congrArg Int32.toInt (F_n F119 (show ¬ (82 < 0) by decide) (F_n F27 (show ¬ (82 < 0) by decide) rfl))
                      have t_160 : (M121.2.1 82 (x3.toInt).toNat).toInt = (N.2.1 82 (x3.toInt).toNat).toInt := congrArg Int32.toInt (F_n F119 (show ¬ (82 < 0) by decide) (F_n F27 (show ¬ (82 < 0) by decide) rfl))
                      have t_161 : (M121.2.1 83 (x3.toInt).toNat).toInt = (N.2.1 83 (x3.toInt).toNat).toInt := congrArg Int32.toInt (F_n F119 (show ¬ (83 < 0) by decide) (F_n F27 (show ¬ (83 < 0) by decide) rfl))
                      have s_162 : PV M121 (x4.toInt).toNat = PV N (x4.toInt).toNat := PV_f _ (fun i z => (F_n F119 (show ¬ (118 < 0) by decide) (F_n F27 (show ¬ (118 < 0) by decide) rfl)))
                      exact ih.2.2.1 M121 (u1) x3 x4 x5 x6 x7 (.int x8) (.int r26) (.int r118) (.int (0 : Int32)) v156 (u13) hG120 F122 (by omega) (by omega) (by omega) (by omega) (by omega) (by omega) (by omega) (by omega) (by omega) (by omega) (fun i z => by have z2 := g10 i z; rw [(F_n F119 (show ¬ (118 < 0) by decide) (F_n F27 (show ¬ (118 < 0) by decide) rfl))]; omega) (by omega)
                    · refine to_i (pc := 189) rw_237_189 rfl (to_i (pc := 191) rw_237_191 rfl (b_cge (pc := 193) rw_237_193 (A := x8.toInt) (B := x5.toInt) rfl rfl (fun h163 => ?_) (fun h163 => ?_)))
                      · refine to_c (pc := 200) rw_237_200 (x := (0 : Int32)) rfl rfl (to_is (pc := 201) rw_237_201 (ls2 := [.ref 77, u1, .int w, .int x3, .int x4, .int x5, .int x6, .int x7, .int x8, .int r26, .int r118, .int (0 : Int32), u12, u13]) rfl rfl (to_i (pc := 203) rw_237_203 rfl (b_ieq_t (pc := 205) rw_237_205 (A := 0) rfl (by decide) (to_i (pc := 220) rw_237_220 rfl (to_c (pc := 222) rw_237_222 (x := (1 : Int32)) rfl rfl (s_sub (pc := 223) rw_237_223 (A := x4.toInt) (B := 1) rfl rfl (by omega) (fun v164 e165 => to_is (pc := 224) rw_237_224 (ls2 := [.ref 77, u1, .int w, .int x3, .int x4, .int x5, .int x6, .int x7, .int x8, .int r26, .int r118, .int (0 : Int32), .int v164, u13]) rfl rfl ?_)))))))
                        have t_166 : (M121.2.1 83 (x3.toInt).toNat).toInt = (N.2.1 83 (x3.toInt).toNat).toInt := congrArg Int32.toInt (F_n F119 (show ¬ (83 < 0) by decide) (F_n F27 (show ¬ (83 < 0) by decide) rfl))
                        have t_167 : (M121.2.1 82 (x3.toInt).toNat).toInt = (N.2.1 82 (x3.toInt).toNat).toInt := congrArg Int32.toInt (F_n F119 (show ¬ (82 < 0) by decide) (F_n F27 (show ¬ (82 < 0) by decide) rfl))
                        have t_168 : (M121.2.1 82 (x3.toInt).toNat).toInt = (N.2.1 82 (x3.toInt).toNat).toInt := congrArg Int32.toInt (F_n F119 (show ¬ (82 < 0) by decide) (F_n F27 (show ¬ (82 < 0) by decide) rfl))
                        have t_169 : (M121.2.1 83 (x3.toInt).toNat).toInt = (N.2.1 83 (x3.toInt).toNat).toInt := congrArg Int32.toInt (F_n F119 (show ¬ (83 < 0) by decide) (F_n F27 (show ¬ (83 < 0) by decide) rfl))
                        have s_170 : PV M121 (x4.toInt).toNat = PV N (x4.toInt).toNat := PV_f _ (fun i z => (F_n F119 (show ¬ (118 < 0) by decide) (F_n F27 (show ¬ (118 < 0) by decide) rfl)))
                        exact ih.2.2.1 M121 (u1) x3 x4 x5 x6 x7 (.int x8) (.int r26) (.int r118) (.int (0 : Int32)) v164 (u13) hG120 F122 (by omega) (by omega) (by omega) (by omega) (by omega) (by omega) (by omega) (by omega) (by omega) (by omega) (fun i z => by have z2 := g10 i z; rw [(F_n F119 (show ¬ (118 < 0) by decide) (F_n F27 (show ¬ (118 < 0) by decide) rfl))]; omega) (by omega)
                      · refine to_c (pc := 196) rw_237_196 (x := (1 : Int32)) rfl rfl (to_go (pc := 197) rw_237_197 (to_is (pc := 201) rw_237_201 (ls2 := [.ref 77, u1, .int w, .int x3, .int x4, .int x5, .int x6, .int x7, .int x8, .int r26, .int r118, .int (1 : Int32), u12, u13]) rfl rfl (to_i (pc := 203) rw_237_203 rfl (b_ieq_f (pc := 205) rw_237_205 (A := 1) rfl (by decide) (to_i (pc := 208) rw_237_208 rfl (to_is (pc := 210) rw_237_210 (ls2 := [.ref 77, u1, .int w, .int x3, .int x4, .int x8, .int x6, .int x7, .int x8, .int r26, .int r118, .int (1 : Int32), u12, u13]) rfl rfl (to_i (pc := 212) rw_237_212 rfl (to_is (pc := 214) rw_237_214 (ls2 := [.ref 77, u1, .int w, .int x3, .int x4, .int x8, .int r26, .int x7, .int x8, .int r26, .int r118, .int (1 : Int32), u12, u13]) rfl rfl (to_i (pc := 216) rw_237_216 rfl (to_is (pc := 218) rw_237_218 (ls2 := [.ref 77, u1, .int w, .int x3, .int x4, .int x8, .int r26, .int r118, .int x8, .int r26, .int r118, .int (1 : Int32), u12, u13]) rfl rfl (to_i (pc := 220) rw_237_220 rfl ?_)))))))))))
                        refine to_c (pc := 222) rw_237_222 (x := (1 : Int32)) rfl rfl (s_sub (pc := 223) rw_237_223 (A := x4.toInt) (B := 1) rfl rfl (by omega) (fun v171 e172 => to_is (pc := 224) rw_237_224 (ls2 := [.ref 77, u1, .int w, .int x3, .int x4, .int x8, .int r26, .int r118, .int x8, .int r26, .int r118, .int (1 : Int32), .int v171, u13]) rfl rfl ?_))
                        have t_173 : (M121.2.1 83 (x3.toInt).toNat).toInt = (N.2.1 83 (x3.toInt).toNat).toInt := congrArg Int32.toInt (F_n F119 (show ¬ (83 < 0) by decide) (F_n F27 (show ¬ (83 < 0) by decide) rfl))
                        have t_174 : (M121.2.1 82 (x3.toInt).toNat).toInt = (N.2.1 82 (x3.toInt).toNat).toInt := congrArg Int32.toInt (F_n F119 (show ¬ (82 < 0) by decide) (F_n F27 (show ¬ (82 < 0) by decide) rfl))
                        have t_175 : (M121.2.1 82 (x3.toInt).toNat).toInt = (N.2.1 82 (x3.toInt).toNat).toInt := congrArg Int32.toInt (F_n F119 (show ¬ (82 < 0) by decide) (F_n F27 (show ¬ (82 < 0) by decide) rfl))
                        have t_176 : (M121.2.1 83 (x3.toInt).toNat).toInt = (N.2.1 83 (x3.toInt).toNat).toInt := congrArg Int32.toInt (F_n F119 (show ¬ (83 < 0) by decide) (F_n F27 (show ¬ (83 < 0) by decide) rfl))
                        have s_177 : PV M121 (x4.toInt).toNat = PV N (x4.toInt).toNat := PV_f _ (fun i z => (F_n F119 (show ¬ (118 < 0) by decide) (F_n F27 (show ¬ (118 < 0) by decide) rfl)))
                        exact ih.2.2.1 M121 (u1) x3 x4 x8 r26 r118 (.int x8) (.int r26) (.int r118) (.int (1 : Int32)) v171 (u13) hG120 F122 (by omega) (by omega) (by omega) (by omega) (by omega) (by omega) (by omega) (by omega) (by omega) (by omega) (fun i z => by have z2 := g10 i z; rw [(F_n F119 (show ¬ (118 < 0) by decide) (F_n F27 (show ¬ (118 < 0) by decide) rfl))]; omega) (by omega)
      · refine to_i (pc := 90) rw_237_90 rfl (to_c (pc := 92) rw_237_92 (x := (1 : Int32)) rfl rfl (to_an (pc := 93) rw_237_93 rfl (s_gR (pc := 94) rw_237_94 hG rfl (v := 118) rfl (to_i (pc := 97) rw_237_97 rfl (s_ial (pc := 99) rw_237_99 hG rfl (n := 4) rfl rfl (A := x9.toInt) rfl (by omega) (by omega) (lo := 0) (hi := 63) rfl rfl (fun v178 w_179 _ _ => s_any (pc := 100) rw_237_100 (fun _ _ => rfl) (fun v180 => s_any (pc := 101) rw_237_101 (fun _ _ => rfl) (fun v181 => to_is (pc := 102) rw_237_102 (ls2 := [.ref 77, u1, .int w, .int x3, .int x4, .int x5, .int x6, .int x7, .int v181, .int x9, u10, u11, u12, u13]) rfl rfl (s_inc (pc := 104) rw_237_104 (ls2 := fun v => [.ref 77, u1, .int w, .int x3, .int x4, .int x5, .int x6, .int x7, .int v181, .int v, u10, u11, u12, u13]) rfl rfl (fun _ => rfl) (A := x9.toInt) (B := 1) rfl rfl (by omega) (fun v182 e183 => to_go (pc := 107) rw_237_107 ?_))))))))))
        exact ih.2.1 N (u1) x3 x4 x5 x6 x7 v181 v182 (u10) (u11) (u12) (u13) hG F0 (by omega) (by omega) (by omega) (by omega) (by omega) (by omega) (by omega) (by omega) (by omega) g10 (by omega)
    · intro N u1 x3 x4 x5 x6 x7 u8 u9 u10 u11 x12 u13 hG F0 g1 g2 g3 g4 g5 g6 g7 g8 g9 g10 g11 hm
      have s_184 := PV_b hG (x4.toInt).toNat
      have s_185 := pw_4 (k := (x4.toInt).toNat) (by omega)
      have s_186 := g_b hG (a := 83) (i := (x3.toInt).toNat) (lo := 0) (hi := 63) rfl rfl
      have s_187 := g_b hG (a := 82) (i := (x3.toInt).toNat) (lo := 0) (hi := 59) rfl rfl
      refine to_i (pc := 226) rw_237_226 rfl (b_ilt (pc := 228) rw_237_228 (A := x12.toInt) rfl (fun h188 => ?_) (fun h188 => ?_))
      · refine to_i (pc := 258) rw_237_258 rfl (b_ige_f (pc := 260) rw_237_260 (A := x12.toInt) rfl (by omega) (to_i (pc := 263) rw_237_263 rfl (to_r0 (pc := 265) rw_237_265 ?_)))
        exact h x5 N hG F0 
      · refine to_an (pc := 231) rw_237_231 rfl (s_gR (pc := 232) rw_237_232 hG rfl (v := 118) rfl (to_i (pc := 235) rw_237_235 rfl (s_ial (pc := 237) rw_237_237 hG rfl (n := 4) rfl rfl (A := x12.toInt) rfl (by omega) (by omega) (lo := 0) (hi := 63) rfl rfl (fun v189 w_190 _ _ => ?_))))
        have s_191 := g11 (x12.toInt).toNat (by omega)
        rw [w_190] at s_191
        have s_192 := congrArg Int32.toInt w_190
        refine to_an (pc := 238) rw_237_238 rfl (to_in (pc := 239) rw_237_239 rfl (s_v (pc := 240) rw_237_240 (dp0 hd (by decide)) (ls0 := [.ref 77, .int x3]) rfl (Nat.le_of_ble_eq_true rfl) (Nat.le_of_ble_eq_true rfl) rfl (to_rc rfl rfl rfl (g_o hG rfl)) rfl (to_an (pc := 0) rw_197_0 rfl (s_gR (pc := 1) rw_197_1 hG rfl (v := 83) rfl (to_in (pc := 4) rw_197_4 rfl (s_ial (pc := 5) rw_197_5 hG rfl (n := 16) rfl rfl (A := x3.toInt) rfl (by omega) (by omega) (lo := 0) (hi := 63) rfl rfl (fun v193 w_194 _ _ => ?_)))))))
        have t_195 := congrArg Int32.toInt w_194
        refine to_an (pc := 6) rw_197_6 rfl (s_gR (pc := 7) rw_197_7 hG rfl (v := 82) rfl (to_in (pc := 10) rw_197_10 rfl (s_ial (pc := 11) rw_197_11 hG rfl (n := 16) rfl rfl (A := x3.toInt) rfl (by omega) (by omega) (lo := 0) (hi := 59) rfl rfl (fun v196 w_197 _ _ => ?_))))
        have t_198 := congrArg Int32.toInt w_197
        refine s_sub (pc := 12) rw_197_12 (A := v193.toInt) (B := v196.toInt) rfl rfl (by omega) (fun v199 e200 => to_c (pc := 13) rw_197_13 (x := (1 : Int32)) rfl rfl (s_add (pc := 14) rw_197_14 (A := v199.toInt) (B := 1) rfl rfl (by omega) (fun v201 e202 => to_r0 (pc := 15) rw_197_15 (to_i (pc := 243) rw_237_243 rfl (s_sub (pc := 245) rw_237_245 (A := v201.toInt) (B := x4.toInt) rfl rfl (by omega) (fun v203 e204 => to_i (pc := 246) rw_237_246 rfl (s_add (pc := 248) rw_237_248 (A := v203.toInt) (B := x12.toInt) rfl rfl (by omega) (fun v205 e206 => b_cne (pc := 249) rw_237_249 (A := v189.toInt) (B := v205.toInt) rfl rfl (fun h207 => ?_) (fun h207 => ?_)))))))))
        · refine to_i (pc := 258) rw_237_258 rfl (b_ige_t (pc := 260) rw_237_260 (A := x12.toInt) rfl (by omega) (to_an (pc := 266) rw_237_266 rfl (s_gR (pc := 267) rw_237_267 hG rfl (v := 118) rfl (to_i (pc := 270) rw_237_270 rfl (to_dup2 (pc := 272) rw_237_272 (s_ialk (pc := 273) rw_237_273 hG rfl (n := 4) rfl rfl (A := x12.toInt) rfl (by omega) (by omega) (v := v189) w_190 (to_c (pc := 274) rw_237_274 (x := (1 : Int32)) rfl rfl (s_add (pc := 275) rw_237_275 (A := v189.toInt) (B := 1) rfl rfl (by omega) (fun v210 e211 => s_ias (pc := 276) rw_237_276 hG rfl (n := 4) rfl (A := x12.toInt) rfl (by omega) (by omega) (fun M213 W212 => ?_))))))))))
          have hG214 := g_w hG W212 (A := v210.toInt) rfl (lo := 0) (hi := 63) rfl rfl (by omega) (by decide)
          have F215 := FR.w F0 W212 (show 118 = 77 ∧ (x12.toInt).toNat = 2 ∨ 94 ≤ 118 ∧ 118 ≤ 98 ∨ 118 = 118 by omega)
          refine to_i (pc := 277) rw_237_277 rfl (to_c (pc := 279) rw_237_279 (x := (1 : Int32)) rfl rfl (s_add (pc := 280) rw_237_280 (A := x12.toInt) (B := 1) rfl rfl (by omega) (fun v216 e217 => to_is (pc := 281) rw_237_281 (ls2 := [.ref 77, u1, .int w, .int x3, .int x4, .int x5, .int x6, .int x7, u8, u9, u10, u11, .int x12, .int v216]) rfl rfl ?_)))
          have t_218 : (M213.2.1 83 (x3.toInt).toNat).toInt = (N.2.1 83 (x3.toInt).toNat).toInt := congrArg Int32.toInt (W_n W212 (by omega) rfl)
          have t_219 : (M213.2.1 82 (x3.toInt).toNat).toInt = (N.2.1 82 (x3.toInt).toNat).toInt := congrArg Int32.toInt (W_n W212 (by omega) rfl)
          have t_220 : (M213.2.1 82 (x3.toInt).toNat).toInt = (N.2.1 82 (x3.toInt).toNat).toInt := congrArg Int32.toInt (W_n W212 (by omega) rfl)
          have t_221 : (M213.2.1 83 (x3.toInt).toNat).toInt = (N.2.1 83 (x3.toInt).toNat).toInt := congrArg Int32.toInt (W_n W212 (by omega) rfl)
          have s_222 : (M213.2.1 118 (x12.toInt).toNat).toInt = v210.toInt := congrArg Int32.toInt (W_e W212)
          have s_223 := PW_inc (M := N) (M1 := M213) hG (i := (x12.toInt).toNat) (k := (x4.toInt).toNat) (by omega) (fun i z => (W_n W212 (by omega) rfl)) (by rw [(W_e W212)]; omega)
          have s_224 : PW M213 (v216.toInt).toNat (x4.toInt).toNat = PW M213 ((x12.toInt).toNat + 1) (x4.toInt).toNat := by rw [show (v216.toInt).toNat = (x12.toInt).toNat + 1 by omega]
          exact ih.2.2.2 M213 (u1) x3 x4 x5 x6 x7 (u8) (u9) (u10) (u11) (.int x12) v216 hG214 F215 (by omega) (by omega) (by omega) (by omega) (by omega) (by omega) (by omega) (by omega) (by omega) (by omega) (fun i z => by
              by_cases ei : i = (x12.toInt).toNat
              · rw [ei]; omega
              · have z2 := g11 i (by omega)
                rw [(W_n W212 (by omega) rfl)]; omega) (by omega)
        · refine s_inc (pc := 252) rw_237_252 (ls2 := fun v => [.ref 77, u1, .int w, .int x3, .int x4, .int x5, .int x6, .int x7, u8, u9, u10, u11, .int v, u13]) rfl rfl (fun _ => rfl) (A := x12.toInt) (B := -1) rfl rfl (by omega) (fun v225 e226 => to_go (pc := 255) rw_237_255 ?_)
          exact ih.2.2.1 N (u1) x3 x4 x5 x6 x7 (u8) (u9) (u10) (u11) v225 (u13) hG F0 (by omega) (by omega) (by omega) (by omega) (by omega) (by omega) (by omega) (by omega) (by omega) (by omega) g11 (by omega)
    · intro N u1 x3 x4 x5 x6 x7 u8 u9 u10 u11 u12 x13 hG F0 g1 g2 g3 g4 g5 g6 g7 g8 g9 g10 g11 hm
      have s_227 := PW_b hG (j := (x13.toInt).toNat) (k := (x4.toInt).toNat) (by omega) (by omega)
      have s_228 := g_b hG (a := 83) (i := (x3.toInt).toNat) (lo := 0) (hi := 63) rfl rfl
      have s_229 := g_b hG (a := 82) (i := (x3.toInt).toNat) (lo := 0) (hi := 59) rfl rfl
      refine to_i (pc := 283) rw_237_283 rfl (to_i (pc := 285) rw_237_285 rfl (b_cge (pc := 287) rw_237_287 (A := x13.toInt) (B := x4.toInt) rfl rfl (fun h230 => ?_) (fun h230 => ?_)))
      · refine to_go (pc := 314) rw_237_314 ?_
        have s_231 : PW N (x13.toInt).toNat (x4.toInt).toNat = PV N (x4.toInt).toNat := by rw [show (x13.toInt).toNat = (x4.toInt).toNat by omega]; exact PW_k
        exact ih.1 N (u1) x3 x4 x5 x6 x7 (u8) (u9) (u10) (u11) (u12) (.int x13) hG F0 (by omega) (by omega) (by omega) (by omega) (by omega) (by omega) (by omega) (fun i z => g11 i (by omega)) (by omega)
      · refine to_an (pc := 290) rw_237_290 rfl (s_gR (pc := 291) rw_237_291 hG rfl (v := 118) rfl (to_i (pc := 294) rw_237_294 rfl (to_an (pc := 296) rw_237_296 rfl (s_gR (pc := 297) rw_237_297 hG rfl (v := 118) rfl (to_i (pc := 300) rw_237_300 rfl (to_c (pc := 302) rw_237_302 (x := (1 : Int32)) rfl rfl (s_sub (pc := 303) rw_237_303 (A := x13.toInt) (B := 1) rfl rfl (by omega) (fun v232 e233 => s_ial (pc := 304) rw_237_304 hG rfl (n := 4) rfl rfl (A := v232.toInt) rfl (by omega) (by omega) (lo := 0) (hi := 63) rfl rfl (fun v234 w_235 _ _ => ?_)))))))))
        have s_236 := g11 (v232.toInt).toNat (by omega)
        rw [w_235] at s_236
        have s_237 := congrArg Int32.toInt w_235
        refine to_c (pc := 305) rw_237_305 (x := (1 : Int32)) rfl rfl (s_add (pc := 306) rw_237_306 (A := v234.toInt) (B := 1) rfl rfl (by omega) (fun v238 e239 => s_ias (pc := 307) rw_237_307 hG rfl (n := 4) rfl (A := x13.toInt) rfl (by omega) (by omega) (fun M241 W240 => ?_)))
        have hG242 := g_w hG W240 (A := v238.toInt) rfl (lo := 0) (hi := 63) rfl rfl (by omega) (by decide)
        have F243 := FR.w F0 W240 (show 118 = 77 ∧ (x13.toInt).toNat = 2 ∨ 94 ≤ 118 ∧ 118 ≤ 98 ∨ 118 = 118 by omega)
        refine s_inc (pc := 308) rw_237_308 (ls2 := fun v => [.ref 77, u1, .int w, .int x3, .int x4, .int x5, .int x6, .int x7, u8, u9, u10, u11, u12, .int v]) rfl rfl (fun _ => rfl) (A := x13.toInt) (B := 1) rfl rfl (by omega) (fun v244 e245 => to_go (pc := 311) rw_237_311 ?_)
        have t_246 : (M241.2.1 83 (x3.toInt).toNat).toInt = (N.2.1 83 (x3.toInt).toNat).toInt := congrArg Int32.toInt (W_n W240 (by omega) rfl)
        have t_247 : (M241.2.1 82 (x3.toInt).toNat).toInt = (N.2.1 82 (x3.toInt).toNat).toInt := congrArg Int32.toInt (W_n W240 (by omega) rfl)
        have t_248 : (M241.2.1 82 (x3.toInt).toNat).toInt = (N.2.1 82 (x3.toInt).toNat).toInt := congrArg Int32.toInt (W_n W240 (by omega) rfl)
        have t_249 : (M241.2.1 83 (x3.toInt).toNat).toInt = (N.2.1 83 (x3.toInt).toNat).toInt := congrArg Int32.toInt (W_n W240 (by omega) rfl)
        have s_250 : (M241.2.1 118 (x13.toInt).toNat).toInt = v238.toInt := congrArg Int32.toInt (W_e W240)
        have s_251 : PW M241 (x13.toInt).toNat (x4.toInt).toNat = PW N (x13.toInt).toNat (x4.toInt).toNat := PW_f (fun i z => (W_n W240 (by omega) rfl))
        have s_252 := PW_le hG242 (j := (x13.toInt).toNat) (k := (x4.toInt).toNat) (by omega)
        have s_253 : PW M241 (v244.toInt).toNat (x4.toInt).toNat = PW M241 ((x13.toInt).toNat + 1) (x4.toInt).toNat := by rw [show (v244.toInt).toNat = (x13.toInt).toNat + 1 by omega]
        exact ih.2.2.2 M241 (u1) x3 x4 x5 x6 x7 (u8) (u9) (u10) (u11) (u12) v244 hG242 F243 (by omega) (by omega) (by omega) (by omega) (by omega) (by omega) (by omega) (by omega) (by omega) (by omega) (fun i z => by
            by_cases ei : i = (x13.toInt).toNat
            · rw [ei]; omega
            · have z2 := g11 i (by omega)
              rw [(W_n W240 (by omega) rfl)]; omega) (by omega)
set_option maxRecDepth 4000 in
set_option maxHeartbeats 0 in
theorem T_237_1 {X : mm_X} {d : Nat} {M : mm_M} {Q : Option Value → mm_M → Prop} {n : Int32} {w : Int32} (hX : g_X X) (hd : 3 ≤ d) (q1 : NJ M) (q2 : FA M) (q3 : WC M) (h : ∀ (r : Int32) (M1 : mm_M), g_G M1 → FR md_bs M M1 → Q (some (.int r)) M1) : ∀ nn9 : Nat, (∀ (N : mm_M) (u1 : Value) (x3 : Int32) (x4 : Int32) (x5 : Int32) (x6 : Int32) (x7 : Int32) (x8 : Int32) (u9 : Value) (u10 : Value) (u11 : Value) (u12 : Value) (u13 : Value), g_G N → FR md_bs M N → (0 ≤ x8.toInt) → (x8.toInt ≤ 4) → (1 ≤ x4.toInt) → (x4.toInt ≤ 4) → (0 ≤ x3.toInt) → (x3.toInt ≤ 7) → (0 ≤ w.toInt) → (w.toInt ≤ 11) → (x4.toInt ≤ (N.2.1 83 (x3.toInt).toNat).toInt - (N.2.1 82 (x3.toInt).toNat).toInt + 1) → (∀ i : Nat, i < (x8.toInt).toNat → (N.2.1 118 i).toInt = i) → 4 - x8.toInt < (nn9 : Int) → mm_T X d 236 55 [.ref 77, u1, .int w, .int x3, .int x4, .int x5, .int x6, .int x7, .int x8, u9, u10, u11, u12, u13] [] N Q) := by
  intro nn9
  induction nn9 with
  | zero =>
    intro N u1 x3 x4 x5 x6 x7 x8 u9 u10 u11 u12 u13 hG F0 g1 g2 g3 g4 g5 g6 g7 g8 g9 g10 hm
    exfalso; omega
  | succ nn9 ih =>
    intro N u1 x3 x4 x5 x6 x7 x8 u9 u10 u11 u12 u13 hG F0 g1 g2 g3 g4 g5 g6 g7 g8 g9 g10 hm
    have s_254 := g_b hG (a := 83) (i := (x3.toInt).toNat) (lo := 0) (hi := 63) rfl rfl
    have s_255 := g_b hG (a := 82) (i := (x3.toInt).toNat) (lo := 0) (hi := 59) rfl rfl
    refine to_i (pc := 55) rw_237_55 rfl (to_i (pc := 57) rw_237_57 rfl (b_cge (pc := 59) rw_237_59 (A := x8.toInt) (B := x4.toInt) rfl rfl (fun h256 => ?_) (fun h256 => ?_)))
    · exact (T_237_0 (n := n) (w := w) hX hd q1 q2 q3 h (((16777216 - PV N (x4.toInt).toNat) * 1000 + 500).toNat + 1)).1 N (u1) x3 x4 x5 x6 x7 (.int x8) (u9) (u10) (u11) (u12) (u13) hG F0 (by omega) (by omega) (by omega) (by omega) (by omega) (by omega) (by omega) (fun i z => by have z2 := g10 i (by omega); omega) (by omega)
    · refine to_an (pc := 62) rw_237_62 rfl (s_gR (pc := 63) rw_237_63 hG rfl (v := 118) rfl (to_i (pc := 66) rw_237_66 rfl (to_i (pc := 68) rw_237_68 rfl (s_ias (pc := 70) rw_237_70 hG rfl (n := 4) rfl (A := x8.toInt) rfl (by omega) (by omega) (fun M258 W257 => ?_)))))
      have hG259 := g_w hG W257 (A := x8.toInt) rfl (lo := 0) (hi := 63) rfl rfl (by omega) (by decide)
      have F260 := FR.w F0 W257 (show 118 = 77 ∧ (x8.toInt).toNat = 2 ∨ 94 ≤ 118 ∧ 118 ≤ 98 ∨ 118 = 118 by omega)
      refine s_inc (pc := 71) rw_237_71 (ls2 := fun v => [.ref 77, u1, .int w, .int x3, .int x4, .int x5, .int x6, .int x7, .int v, u9, u10, u11, u12, u13]) rfl rfl (fun _ => rfl) (A := x8.toInt) (B := 1) rfl rfl (by omega) (fun v261 e262 => to_go (pc := 74) rw_237_74 ?_)
      have t_263 : (M258.2.1 83 (x3.toInt).toNat).toInt = (N.2.1 83 (x3.toInt).toNat).toInt := congrArg Int32.toInt (W_n W257 (by omega) rfl)
      have t_264 : (M258.2.1 82 (x3.toInt).toNat).toInt = (N.2.1 82 (x3.toInt).toNat).toInt := congrArg Int32.toInt (W_n W257 (by omega) rfl)
      exact ih M258 (u1) x3 x4 x5 x6 x7 v261 (u9) (u10) (u11) (u12) (u13) hG259 F260 (by omega) (by omega) (by omega) (by omega) (by omega) (by omega) (by omega) (by omega) (by omega) (fun i z => by
          by_cases e : i = (x8.toInt).toNat
          · rw [e, (W_e W257)]; omega
          · rw [(W_n W257 (by omega) rfl)]; exact g10 i (by omega)) (by omega)
set_option maxRecDepth 4000 in
set_option maxHeartbeats 0 in
theorem C_237 {X : mm_X} {d : Nat} {M : mm_M} {Q : Option Value → mm_M → Prop} {n : Int32} {w : Int32} (hX : g_X X) (hd : 3 ≤ d) (hG : g_G M) (q1 : NJ M) (q2 : FA M) (q3 : WC M) (h : ∀ (r : Int32) (M1 : mm_M), g_G M1 → FR md_bs M M1 → Q (some (.int r)) M1) : mm_T X d 236 0 [.ref 77, .int n, .int w, .null, .null, .null, .null, .null, .null, .null, .null, .null, .null, .null] [] M Q := by
  have F0 : FR md_bs M M := FR.rf
  refine to_an (pc := 0) rw_237_0 rfl (to_c (pc := 1) rw_237_1 (x := (0 : Int32)) rfl rfl (s_pI (pc := 2) rw_237_2 hG rfl (fun M266 W265 => ?_)))
  have hG267 := g_wf hG W265 rfl rfl (by decide)
  have F268 := FR.w F0 W265 (show 77 = 77 ∧ 2 = 2 ∨ 94 ≤ 77 ∧ 77 ≤ 98 ∨ 77 = 118 by decide)
  refine to_an (pc := 5) rw_237_5 rfl (to_in (pc := 6) rw_237_6 rfl (s_v (pc := 7) rw_237_7 (dp0 hd (by decide)) (ls0 := [.ref 77, .int n]) rfl (Nat.le_of_ble_eq_true rfl) (Nat.le_of_ble_eq_true rfl) rfl (to_rc rfl rfl rfl (g_o hG267 rfl)) rfl (to_in (pc := 0) rw_186_0 rfl (b_ilt (pc := 1) rw_186_1 (A := n.toInt) rfl (fun h269 => ?_) (fun h269 => ?_)))))
  · refine to_c (pc := 16) rw_186_16 (x := (0 : Int32)) rfl rfl (s_r1 (pc := 17) rw_186_17 (A := 0) rfl (by decide) (b_ieq_t (pc := 10) rw_237_10 (A := 0) rfl (by decide) (to_c (pc := 21) rw_237_21 (x := (-1 : Int32)) rfl rfl (to_r0 (pc := 22) rw_237_22 ?_))))
    have k_270 : (-1 : Int32).toInt = -1 := rfl
    exact h (-1 : Int32) M266 hG267 F268 
  · refine to_in (pc := 4) rw_186_4 rfl (to_an (pc := 5) rw_186_5 rfl ?_)
    have c_271 : M266.2.1 77 29 = (M.2.1 77 29) := (W_n W265 (by decide) rfl)
    have b_272 := g_b hG (a := 77) (i := 29) (lo := 0) (hi := 150) rfl rfl
    refine tt_gI (pc := 6) rw_186_6 (g_o hG267 rfl) (v := (M.2.1 77 29)) c_271 (b_cgt (pc := 9) rw_186_9 (A := n.toInt) (B := (M.2.1 77 29).toInt) rfl rfl (fun h273 => ?_) (fun h273 => ?_))
    · refine to_c (pc := 16) rw_186_16 (x := (0 : Int32)) rfl rfl (s_r1 (pc := 17) rw_186_17 (A := 0) rfl (by decide) (b_ieq_t (pc := 10) rw_237_10 (A := 0) rfl (by decide) (to_c (pc := 21) rw_237_21 (x := (-1 : Int32)) rfl rfl (to_r0 (pc := 22) rw_237_22 ?_))))
      have k_274 : (-1 : Int32).toInt = -1 := rfl
      exact h (-1 : Int32) M266 hG267 F268 
    · refine to_c (pc := 12) rw_186_12 (x := (1 : Int32)) rfl rfl (to_go (pc := 13) rw_186_13 (s_r1 (pc := 17) rw_186_17 (A := 1) rfl (by decide) (b_ieq_f (pc := 10) rw_237_10 (A := 1) rfl (by decide) (to_an (pc := 13) rw_237_13 rfl (to_in (pc := 14) rw_237_14 rfl (s_v (pc := 15) rw_237_15 (dp0 hd (by decide)) (ls0 := [.ref 77, .int w]) rfl (Nat.le_of_ble_eq_true rfl) (Nat.le_of_ble_eq_true rfl) rfl (to_rc rfl rfl rfl (g_o hG267 rfl)) rfl (to_in (pc := 0) rw_180_0 rfl (b_ilt (pc := 1) rw_180_1 (A := w.toInt) rfl (fun h275 => ?_) (fun h275 => ?_)))))))))
      · refine to_c (pc := 16) rw_180_16 (x := (0 : Int32)) rfl rfl (s_r1 (pc := 17) rw_180_17 (A := 0) rfl (by decide) (b_ine_f (pc := 18) rw_237_18 (A := 0) rfl (by decide) (to_c (pc := 21) rw_237_21 (x := (-1 : Int32)) rfl rfl (to_r0 (pc := 22) rw_237_22 ?_))))
        have k_276 : (-1 : Int32).toInt = -1 := rfl
        exact h (-1 : Int32) M266 hG267 F268 
      · refine to_in (pc := 4) rw_180_4 rfl (to_an (pc := 5) rw_180_5 rfl ?_)
        have c_277 : M266.2.1 77 13 = (M.2.1 77 13) := (W_n W265 (by decide) rfl)
        have b_278 := g_b hG (a := 77) (i := 13) (lo := 0) (hi := 12) rfl rfl
        refine tt_gI (pc := 6) rw_180_6 (g_o hG267 rfl) (v := (M.2.1 77 13)) c_277 (b_cge (pc := 9) rw_180_9 (A := w.toInt) (B := (M.2.1 77 13).toInt) rfl rfl (fun h279 => ?_) (fun h279 => ?_))
        · refine to_c (pc := 16) rw_180_16 (x := (0 : Int32)) rfl rfl (s_r1 (pc := 17) rw_180_17 (A := 0) rfl (by decide) (b_ine_f (pc := 18) rw_237_18 (A := 0) rfl (by decide) (to_c (pc := 21) rw_237_21 (x := (-1 : Int32)) rfl rfl (to_r0 (pc := 22) rw_237_22 ?_))))
          have k_280 : (-1 : Int32).toInt = -1 := rfl
          exact h (-1 : Int32) M266 hG267 F268 
        · refine to_c (pc := 12) rw_180_12 (x := (1 : Int32)) rfl rfl (to_go (pc := 13) rw_180_13 (s_r1 (pc := 17) rw_180_17 (A := 1) rfl (by decide) (b_ine_t (pc := 18) rw_237_18 (A := 1) rfl (by decide) (to_an (pc := 23) rw_237_23 rfl (to_in (pc := 24) rw_237_24 rfl (s_v (pc := 25) rw_237_25 (dp0 hd (by decide)) (ls0 := [.ref 77, .int n, .null, .null]) rfl (Nat.le_of_ble_eq_true rfl) (Nat.le_of_ble_eq_true rfl) rfl (to_rc rfl rfl rfl (g_o hG267 rfl)) rfl ?_))))))
          have t_281 : (M266.2.1 77 29).toInt = (M.2.1 77 29).toInt := congrArg Int32.toInt c_271
          have j_282 := (NJ_f (fun a i z => W_n W265 (by /-r77,2-/ omega) rfl) q1)
          refine C_189 hX (dp1 hd (by decide)) hG267 (by omega) (by omega) (by omega) j_282 (n := n) (fun M285 hG284 F283 => ?_)
          have F286 := FR.c F268 F283 tg_357
          refine to_an (pc := 28) rw_237_28 rfl (s_gR (pc := 29) rw_237_29 hG284 rfl (v := 86) rfl (to_in (pc := 32) rw_237_32 rfl (s_ial (pc := 33) rw_237_33 hG284 rfl (n := 24) rfl rfl (A := w.toInt) rfl (by omega) (by omega) (lo := 0) (hi := 7) rfl rfl (fun v287 w_288 _ _ => ?_))))
          have c_289 : M285.2.1 77 13 = (M.2.1 77 13) := (F_n F283 (show ¬ (94 ≤ 77 ∧ 77 ≤ 98) by decide) c_277)
          have t_290 : (M285.2.1 77 13).toInt = (M.2.1 77 13).toInt := congrArg Int32.toInt c_289
          have j_292 := (WC_f (tg_355 F283) (WC_f (fun a i z => W_n W265 (by /-r77,2-/ omega) rfl) q3))
          have s_291 := WC_u (A := w.toInt) j_292 (by omega) (by omega) (by omega) w_288
          refine to_isn (pc := 34) rw_237_34 (ls2 := [.ref 77, .int n, .int w, .int v287, .null, .null, .null, .null, .null, .null, .null, .null, .null, .null]) rfl rfl (to_an (pc := 35) rw_237_35 rfl (s_gR (pc := 36) rw_237_36 hG284 rfl (v := 84) rfl (to_in (pc := 39) rw_237_39 rfl (s_ial (pc := 40) rw_237_40 hG284 rfl (n := 16) rfl rfl (A := v287.toInt) rfl (by omega) (by omega) (lo := 0) (hi := 24) rfl rfl (fun v293 w_294 _ _ => ?_)))))
          have t_295 := congrArg Int32.toInt w_294
          have j_297 := (FA_f (tg_346 F283) (FA_f (fun a i z => W_n W265 (tg_94 a i z) rfl) q2))
          have j_296 := FA_u j_297 (v287.toInt).toNat
          refine to_is (pc := 41) rw_237_41 (ls2 := [.ref 77, .int n, .int w, .int v287, .int v293, .null, .null, .null, .null, .null, .null, .null, .null, .null]) rfl rfl (to_c (pc := 43) rw_237_43 (x := (-1 : Int32)) rfl rfl (to_is (pc := 44) rw_237_44 (ls2 := [.ref 77, .int n, .int w, .int v287, .int v293, .int (-1 : Int32), .null, .null, .null, .null, .null, .null, .null, .null]) rfl rfl (to_c (pc := 46) rw_237_46 (x := (0 : Int32)) rfl rfl (to_is (pc := 47) rw_237_47 (ls2 := [.ref 77, .int n, .int w, .int v287, .int v293, .int (-1 : Int32), .int (0 : Int32), .null, .null, .null, .null, .null, .null, .null]) rfl rfl (to_c (pc := 49) rw_237_49 (x := (0 : Int32)) rfl rfl (to_is (pc := 50) rw_237_50 (ls2 := [.ref 77, .int n, .int w, .int v287, .int v293, .int (-1 : Int32), .int (0 : Int32), .int (0 : Int32), .null, .null, .null, .null, .null, .null]) rfl rfl (to_c (pc := 52) rw_237_52 (x := (0 : Int32)) rfl rfl (to_is (pc := 53) rw_237_53 (ls2 := [.ref 77, .int n, .int w, .int v287, .int v293, .int (-1 : Int32), .int (0 : Int32), .int (0 : Int32), .int (0 : Int32), .null, .null, .null, .null, .null]) rfl rfl ?_))))))))
          have k_298 : (-1 : Int32).toInt = -1 := rfl
          have k_299 : (0 : Int32).toInt = 0 := rfl
          have t_300 : (M285.2.1 83 (v287.toInt).toNat).toInt = (M.2.1 83 (v287.toInt).toNat).toInt := congrArg Int32.toInt (F_n F283 (show ¬ (94 ≤ 83 ∧ 83 ≤ 98) by decide) (W_n W265 (by omega) rfl))
          have t_301 : (M285.2.1 82 (v287.toInt).toNat).toInt = (M.2.1 82 (v287.toInt).toNat).toInt := congrArg Int32.toInt (F_n F283 (show ¬ (94 ≤ 82 ∧ 82 ≤ 98) by decide) (W_n W265 (by omega) rfl))
          exact (T_237_1 (n := n) (w := w) hX hd q1 q2 q3 h ((4 - (0 : Int32).toInt).toNat + 1)) M285 (.int n) v287 v293 (-1 : Int32) (0 : Int32) (0 : Int32) (0 : Int32) (.null) (.null) (.null) (.null) (.null) hG284 F286 (by omega) (by omega) (by omega) (by omega) (by omega) (by omega) (by omega) (by omega) (by omega) (fun i z => absurd z (by omega)) (by omega)
end
section
theorem tg_358 : ∀ a i : Nat, (a < 0) → (a = 123) := fun a i z => by omega
theorem tg_359 : ∀ a i : Nat, (a = 121 ∨ a = 122) → (a = 77 ∧ i = 2 ∨ 94 ≤ a ∧ a ≤ 98 ∨ 121 ≤ a ∧ a ≤ 124) := fun a i z => by omega
theorem tg_360 : ∀ a i : Nat, (a = 123) → (a = 77 ∧ i = 2 ∨ 94 ≤ a ∧ a ≤ 98 ∨ 121 ≤ a ∧ a ≤ 124) := fun a i z => by omega
theorem tg_361 : ∀ a i : Nat, (a < 0) → (a = 77 ∧ i = 2 ∨ 94 ≤ a ∧ a ≤ 98 ∨ 121 ≤ a ∧ a ≤ 124) := fun a i z => by omega
theorem tg_362 : ∀ a i : Nat, (94 ≤ a ∧ a ≤ 98) → (a = 77 ∧ i = 2 ∨ 94 ≤ a ∧ a ≤ 98 ∨ 121 ≤ a ∧ a ≤ 124) := fun a i z => by omega
set_option maxRecDepth 4000 in
set_option maxHeartbeats 0 in
theorem T_244_0 {X : mm_X} {d : Nat} {M : mm_M} {Q : Option Value → mm_M → Prop} {n : Int32} {l : Int32} (hX : g_X X) (hd : 2 ≤ d) (q1 : 0 ≤ n.toInt) (q2 : n.toInt ≤ 6) (q3 : 1 ≤ l.toInt) (q4 : l.toInt ≤ 6) (h : ∀ (r : Int32) (M1 : mm_M), g_G M1 → FR md_ro M M1 → (0 ≤ r.toInt) → (r.toInt ≤ 1) → (r.toInt = 1 → NV M l.toInt (n.toInt).toNat + 1 ≤ NV M1 l.toInt (n.toInt).toNat) → Q (some (.int r)) M1) : ∀ nn9 : Nat, (∀ (N : mm_M) (u3 : Value) (x4 : Int32) (x5 : Int32) (u6 : Value) (u7 : Value) (u8 : Value), g_G N → FR md_ro M N → (0 ≤ x5.toInt) → (x5.toInt ≤ 46656) → (1 ≤ x4.toInt) → (x4.toInt ≤ 46656) → (NV M l.toInt (n.toInt).toNat + 1 ≤ x5.toInt) → (x4.toInt = (l.toInt) ^ (n.toInt).toNat) → (46657 - x5.toInt) * 100 + 50 < (nn9 : Int) → mm_T X d 243 58 [.ref 77, .int n, .int l, u3, .int x4, .int x5, u6, u7, u8] [] N Q) ∧ (∀ (N : mm_M) (u3 : Value) (x4 : Int32) (x5 : Int32) (x6 : Int32) (x7 : Int32) (x8 : Int32), g_G N → FR md_ro M N → (0 ≤ x5.toInt) → (x5.toInt ≤ 46655) → (x5.toInt < x4.toInt) → (1 ≤ x4.toInt) → (x4.toInt ≤ 46656) → (-1 ≤ x8.toInt) → (x8.toInt ≤ 5) → (x8.toInt < n.toInt) → (0 ≤ x6.toInt) → (x6.toInt ≤ 46656) → (NV M l.toInt (n.toInt).toNat + 1 ≤ x5.toInt) → (x4.toInt = (l.toInt) ^ (n.toInt).toNat) → (x5.toInt = x6.toInt * (l.toInt) ^ ((n.toInt).toNat - (x8.toInt + 1).toNat) + DV N l.toInt (x8.toInt + 1).toNat ((n.toInt).toNat - (x8.toInt + 1).toNat)) → (46657 - x5.toInt) * 100 + 10 + x8.toInt < (nn9 : Int) → mm_T X d 243 77 [.ref 77, .int n, .int l, u3, .int x4, .int x5, .int x6, .int x7, .int x8] [] N Q) := by
  intro nn9
  induction nn9 with
  | zero =>
    refine ⟨?_, ?_⟩
    · intro N u3 x4 x5 u6 u7 u8 hG F0 g1 g2 g3 g4 g5 g6 hm
      exfalso; omega
    · intro N u3 x4 x5 x6 x7 x8 hG F0 g1 g2 g3 g4 g5 g6 g7 g8 g9 g10 g11 g12 g13 hm
      exfalso; omega
  | succ nn9 ih =>
    refine ⟨?_, ?_⟩
    · intro N u3 x4 x5 u6 u7 u8 hG F0 g1 g2 g3 g4 g5 g6 hm
      refine to_i (pc := 58) rw_244_58 rfl (to_i (pc := 60) rw_244_60 rfl (b_cge (pc := 62) rw_244_62 (A := x5.toInt) (B := x4.toInt) rfl rfl (fun h1 => ?_) (fun h1 => ?_)))
      · refine to_c (pc := 137) rw_244_137 (x := (0 : Int32)) rfl rfl (s_r1 (pc := 138) rw_244_138 (A := 0) rfl (by decide) ?_)
        have k_2 : (0 : Int32).toInt = 0 := rfl
        exact h (0 : Int32) N hG F0 (by decide) (by decide) (fun z => absurd z (by omega))
      · refine to_i (pc := 65) rw_244_65 rfl (to_is (pc := 67) rw_244_67 (ls2 := [.ref 77, .int n, .int l, u3, .int x4, .int x5, .int x5, u7, u8]) rfl rfl (to_c (pc := 69) rw_244_69 (x := (0 : Int32)) rfl rfl (to_is (pc := 70) rw_244_70 (ls2 := [.ref 77, .int n, .int l, u3, .int x4, .int x5, .int x5, .int (0 : Int32), u8]) rfl rfl (to_in (pc := 72) rw_244_72 rfl (to_c (pc := 73) rw_244_73 (x := (1 : Int32)) rfl rfl (s_sub (pc := 74) rw_244_74 (A := n.toInt) (B := 1) rfl rfl (by omega) (fun v3 e4 => to_is (pc := 75) rw_244_75 (ls2 := [.ref 77, .int n, .int l, u3, .int x4, .int x5, .int x5, .int (0 : Int32), .int v3]) rfl rfl ?_)))))))
        have k_5 : (0 : Int32).toInt = 0 := rfl
        have s_6 := g5
        exact ih.2 N (u3) x4 x5 x5 (0 : Int32) v3 hG F0 (by omega) (by omega) (by omega) (by omega) (by omega) (by omega) (by omega) (by omega) (by omega) (by omega) (by omega) g6 (by rw [show (n.toInt).toNat - (v3.toInt + 1).toNat = 0 by omega, Int.pow_zero]; show _ = _ * 1 + 0; omega) (by omega)
    · intro N u3 x4 x5 x6 x7 x8 hG F0 g1 g2 g3 g4 g5 g6 g7 g8 g9 g10 g11 g12 g13 hm
      refine to_i (pc := 77) rw_244_77 rfl (b_ilt (pc := 79) rw_244_79 (A := x8.toInt) rfl (fun h7 => ?_) (fun h7 => ?_))
      · refine to_i (pc := 119) rw_244_119 rfl (s_i2l (pc := 121) rw_244_121 (fun l8 e9 => s_s (pc := 122) rw_244_122 (dp0 hd (by decide)) (ls0 := [.long l8, .null, .null, .null]) rfl (Nat.le_of_ble_eq_true rfl) (Nat.le_of_ble_eq_true rfl) rfl (to_rcs rfl rfl) rfl (C_151 hX (dp1 hd (by decide)) hG (x := l8) (fun r10 M15 hG12 F11 p_13 p_14 => ?_))))
        have F16 := FR.c F0 F11 tg_358
        refine to_in (pc := 125) rw_244_125 rfl (b_cne (pc := 126) rw_244_126 (A := r10.toInt) (B := n.toInt) rfl rfl (fun h17 => ?_) (fun h17 => ?_))
        · refine s_inc (pc := 131) rw_244_131 (ls2 := fun v => [.ref 77, .int n, .int l, u3, .int x4, .int v, .int x6, .int x7, .int x8]) rfl rfl (fun _ => rfl) (A := x5.toInt) (B := 1) rfl rfl (by omega) (fun v18 e19 => to_go (pc := 134) rw_244_134 ?_)
          have s_20 := g11
          exact ih.1 M15 (u3) x4 v18 (.int x6) (.int x7) (.int x8) hG12 F16 (by omega) (by omega) (by omega) (by omega) (by omega) g12 (by omega)
        · refine to_c (pc := 129) rw_244_129 (x := (1 : Int32)) rfl rfl (s_r1 (pc := 130) rw_244_130 (A := 1) rfl (by decide) ?_)
          have k_21 : (1 : Int32).toInt = 1 := rfl
          have s_22 := DV_end hG (l := l.toInt) (n := (n.toInt).toNat) (x := x6.toInt) (v := x5.toInt) (by omega) (by omega) (by have z := g13; rw [show (x8.toInt + 1).toNat = 0 by omega, Nat.sub_zero] at z; exact z) (by omega) (by rw [← g12]; omega)
          have s_23 := g11
          have s_24 : NV M15 l.toInt (n.toInt).toNat = NV N l.toInt (n.toInt).toNat := NV_f (fun i => (F_n F11 (show ¬ (123 < 0) by decide) rfl)) _
          exact h (1 : Int32) M15 hG12 F16 (by decide) (by decide) (fun _ => by omega)
      · refine to_an (pc := 82) rw_244_82 rfl (s_gR (pc := 83) rw_244_83 hG rfl (v := 123) rfl (to_i (pc := 86) rw_244_86 rfl (to_i (pc := 88) rw_244_88 rfl (to_in (pc := 90) rw_244_90 rfl (s_irem (pc := 91) rw_244_91 (A := x6.toInt) (B := l.toInt) rfl rfl (by omega) (by omega) (fun v25 e26 _ => s_ias (pc := 92) rw_244_92 hG rfl (n := 6) rfl (A := x8.toInt) rfl (by omega) (by omega) (fun M28 W27 => ?_)))))))
        have hG29 := g_w hG W27 (A := v25.toInt) rfl (lo := 0) (hi := 5) rfl rfl (by omega) (by decide)
        have F30 := FR.w F0 W27 (show 123 = 123 by decide)
        refine to_i (pc := 93) rw_244_93 rfl (to_c (pc := 95) rw_244_95 (x := (1 : Int32)) rfl rfl (to_an (pc := 96) rw_244_96 rfl (s_gR (pc := 97) rw_244_97 hG29 rfl (v := 123) rfl (to_i (pc := 100) rw_244_100 rfl (s_ialk (pc := 102) rw_244_102 hG29 rfl (n := 6) rfl rfl (A := x8.toInt) rfl (by omega) (by omega) (v := v25) (W_e W27) (s_shl1 (pc := 103) rw_244_103 (B := v25.toInt) rfl (by omega) (fun v33 _ _ => s_any (pc := 104) rw_244_104 (fun _ _ => rfl) (fun v34 => to_is (pc := 105) rw_244_105 (ls2 := [.ref 77, .int n, .int l, u3, .int x4, .int x5, .int x6, .int v34, .int x8]) rfl rfl (to_i (pc := 107) rw_244_107 rfl (to_in (pc := 109) rw_244_109 rfl (s_idiv (pc := 110) rw_244_110 (A := x6.toInt) (B := l.toInt) rfl rfl (by omega) (by omega) (fun v35 e36 _ => ?_))))))))))))
        refine to_is (pc := 111) rw_244_111 (ls2 := [.ref 77, .int n, .int l, u3, .int x4, .int x5, .int v35, .int v34, .int x8]) rfl rfl (s_inc (pc := 113) rw_244_113 (ls2 := fun v => [.ref 77, .int n, .int l, u3, .int x4, .int x5, .int v35, .int v34, .int v]) rfl rfl (fun _ => rfl) (A := x8.toInt) (B := -1) rfl rfl (by omega) (fun v37 e38 => to_go (pc := 116) rw_244_116 ?_))
        have s_39 := g11
        exact ih.2 M28 (u3) x4 x5 v35 v34 v37 hG29 F30 (by omega) (by omega) (by omega) (by omega) (by omega) (by omega) (by omega) (by omega) (by omega) (by omega) (by omega) g12 (by rw [show (v37.toInt + 1).toNat = (x8.toInt).toNat by omega, show (n.toInt).toNat - (x8.toInt).toNat = ((n.toInt).toNat - (x8.toInt + 1).toNat) + 1 by omega]; exact DV_step (by rw [show (x8.toInt).toNat + 1 = (x8.toInt + 1).toNat by omega]; exact g13) e36 e26 (fun a z => (W_n W27 (by omega) rfl)) (by rw [(W_e W27)])) (by omega)
set_option maxRecDepth 4000 in
set_option maxHeartbeats 0 in
theorem T_244_1 {X : mm_X} {d : Nat} {M : mm_M} {Q : Option Value → mm_M → Prop} {n : Int32} {l : Int32} (hX : g_X X) (hd : 2 ≤ d) (q1 : 0 ≤ n.toInt) (q2 : n.toInt ≤ 6) (q3 : 1 ≤ l.toInt) (q4 : l.toInt ≤ 6) (h : ∀ (r : Int32) (M1 : mm_M), g_G M1 → FR md_ro M M1 → (0 ≤ r.toInt) → (r.toInt ≤ 1) → (r.toInt = 1 → NV M l.toInt (n.toInt).toNat + 1 ≤ NV M1 l.toInt (n.toInt).toNat) → Q (some (.int r)) M1) : ∀ nn9 : Nat, (∀ (N : mm_M) (x3 : Int32) (x4 : Int32) (x5 : Int32) (u6 : Value) (u7 : Value) (u8 : Value), g_G N → FR md_ro M N → (1 ≤ x4.toInt) → (x4.toInt ≤ 46656) → (0 ≤ x5.toInt) → (x5.toInt ≤ 6) → (x5.toInt ≤ n.toInt) → (0 ≤ x3.toInt) → (x3.toInt ≤ 46655) → (x4.toInt = (l.toInt) ^ (x5.toInt).toNat) → (x3.toInt = NV M l.toInt (n.toInt).toNat) → 6 - x5.toInt < (nn9 : Int) → mm_T X d 243 35 [.ref 77, .int n, .int l, .int x3, .int x4, .int x5, u6, u7, u8] [] N Q) := by
  intro nn9
  induction nn9 with
  | zero =>
    intro N x3 x4 x5 u6 u7 u8 hG F0 g1 g2 g3 g4 g5 g6 g7 g8 g9 hm
    exfalso; omega
  | succ nn9 ih =>
    intro N x3 x4 x5 u6 u7 u8 hG F0 g1 g2 g3 g4 g5 g6 g7 g8 g9 hm
    refine to_i (pc := 35) rw_244_35 rfl (to_in (pc := 37) rw_244_37 rfl (b_cge (pc := 38) rw_244_38 (A := x5.toInt) (B := n.toInt) rfl rfl (fun h40 => ?_) (fun h40 => ?_)))
    · refine to_in (pc := 53) rw_244_53 rfl (to_c (pc := 54) rw_244_54 (x := (1 : Int32)) rfl rfl (s_add (pc := 55) rw_244_55 (A := x3.toInt) (B := 1) rfl rfl (by omega) (fun v41 e42 => to_is (pc := 56) rw_244_56 (ls2 := [.ref 77, .int n, .int l, .int x3, .int x4, .int v41, u6, u7, u8]) rfl rfl ?_)))
      exact (T_244_0 (n := n) (l := l) hX hd q1 q2 q3 q4 h (((46657 - v41.toInt) * 100 + 50).toNat + 1)).1 N (.int x3) x4 v41 (u6) (u7) (u8) hG F0 (by omega) (by omega) (by omega) (by omega) (by rw [← g9]; omega) (by rw [show (n.toInt).toNat = (x5.toInt).toNat by omega]; exact g8) (by omega)
    · refine to_i (pc := 41) rw_244_41 rfl (to_in (pc := 43) rw_244_43 rfl ?_)
      have m_45 := mul_r (A := x4.toInt) (B := l.toInt) (a := 46656) (b := 6) (by omega) (by omega)
      refine s_mul (pc := 44) rw_244_44 (A := x4.toInt) (B := l.toInt) rfl rfl (by omega) (fun v43 e44 => to_is (pc := 45) rw_244_45 (ls2 := [.ref 77, .int n, .int l, .int x3, .int v43, .int x5, u6, u7, u8]) rfl rfl (s_inc (pc := 47) rw_244_47 (ls2 := fun v => [.ref 77, .int n, .int l, .int x3, .int v43, .int v, u6, u7, u8]) rfl rfl (fun _ => rfl) (A := x5.toInt) (B := 1) rfl rfl (by omega) (fun v46 e47 => to_go (pc := 50) rw_244_50 ?_)))
      have s_48 : l.toInt ^ (v46.toInt).toNat = l.toInt ^ (x5.toInt).toNat * l.toInt := by rw [show (v46.toInt).toNat = (x5.toInt).toNat + 1 by omega]; exact Int.pow_succ _ _
      have s_49 : x4.toInt * l.toInt = l.toInt ^ (x5.toInt).toNat * l.toInt := by rw [g8]
      have s_50 := pl_6 (l := l.toInt) (by omega) (by omega) (k := (v46.toInt).toNat) (by omega)
      exact ih N x3 v43 v46 (u6) (u7) (u8) hG F0 (by omega) (by omega) (by omega) (by omega) (by omega) (by omega) (by omega) (by omega) g9 (by omega)
set_option maxRecDepth 4000 in
set_option maxHeartbeats 0 in
theorem T_244_2 {X : mm_X} {d : Nat} {M : mm_M} {Q : Option Value → mm_M → Prop} {n : Int32} {l : Int32} (hX : g_X X) (hd : 2 ≤ d) (q1 : 0 ≤ n.toInt) (q2 : n.toInt ≤ 6) (q3 : 1 ≤ l.toInt) (q4 : l.toInt ≤ 6) (h : ∀ (r : Int32) (M1 : mm_M), g_G M1 → FR md_ro M M1 → (0 ≤ r.toInt) → (r.toInt ≤ 1) → (r.toInt = 1 → NV M l.toInt (n.toInt).toNat + 1 ≤ NV M1 l.toInt (n.toInt).toNat) → Q (some (.int r)) M1) : ∀ nn9 : Nat, (∀ (N : mm_M) (x3 : Int32) (x4 : Int32) (u5 : Value) (u6 : Value) (u7 : Value) (u8 : Value), g_G N → FR md_ro M N → (0 ≤ x4.toInt) → (x4.toInt ≤ 6) → (x4.toInt ≤ n.toInt) → (0 ≤ x3.toInt) → (x3.toInt ≤ 46655) → (x3.toInt = NV N l.toInt (x4.toInt).toNat) → (NV N l.toInt (n.toInt).toNat = NV M l.toInt (n.toInt).toNat) → 6 - x4.toInt < (nn9 : Int) → mm_T X d 243 5 [.ref 77, .int n, .int l, .int x3, .int x4, u5, u6, u7, u8] [] N Q) := by
  intro nn9
  induction nn9 with
  | zero =>
    intro N x3 x4 u5 u6 u7 u8 hG F0 g1 g2 g3 g4 g5 g6 g7 hm
    exfalso; omega
  | succ nn9 ih =>
    intro N x3 x4 u5 u6 u7 u8 hG F0 g1 g2 g3 g4 g5 g6 g7 hm
    refine to_i (pc := 5) rw_244_5 rfl (to_in (pc := 7) rw_244_7 rfl (b_cge (pc := 8) rw_244_8 (A := x4.toInt) (B := n.toInt) rfl rfl (fun h51 => ?_) (fun h51 => ?_)))
    · refine to_c (pc := 29) rw_244_29 (x := (1 : Int32)) rfl rfl (to_is (pc := 30) rw_244_30 (ls2 := [.ref 77, .int n, .int l, .int x3, .int (1 : Int32), u5, u6, u7, u8]) rfl rfl (to_c (pc := 32) rw_244_32 (x := (0 : Int32)) rfl rfl (to_is (pc := 33) rw_244_33 (ls2 := [.ref 77, .int n, .int l, .int x3, .int (1 : Int32), .int (0 : Int32), u6, u7, u8]) rfl rfl ?_)))
      have k_52 : (1 : Int32).toInt = 1 := rfl
      have k_53 : (0 : Int32).toInt = 0 := rfl
      have s_54 : l.toInt ^ ((0 : Int32).toInt).toNat = 1 := Int.pow_zero _
      exact (T_244_1 (n := n) (l := l) hX hd q1 q2 q3 q4 h ((6 - (0 : Int32).toInt).toNat + 1)) N x3 (1 : Int32) (0 : Int32) (u6) (u7) (u8) hG F0 (by omega) (by omega) (by omega) (by omega) (by omega) (by omega) (by omega) (by omega) (by rw [← g7, show (n.toInt).toNat = (x4.toInt).toNat by omega]; exact g6) (by omega)
    · refine to_in (pc := 11) rw_244_11 rfl (to_in (pc := 12) rw_244_12 rfl ?_)
      have m_57 := mul_r (A := l.toInt) (B := x3.toInt) (a := 6) (b := 46655) (by omega) (by omega)
      refine s_mul (pc := 13) rw_244_13 (A := l.toInt) (B := x3.toInt) rfl rfl (by omega) (fun v55 e56 => to_an (pc := 14) rw_244_14 rfl (s_gR (pc := 15) rw_244_15 hG rfl (v := 123) rfl (to_i (pc := 18) rw_244_18 rfl (s_ial (pc := 20) rw_244_20 hG rfl (n := 6) rfl rfl (A := x4.toInt) rfl (by omega) (by omega) (lo := 0) (hi := 5) rfl rfl (fun v58 w_59 _ _ => ?_)))))
      have t_60 := congrArg Int32.toInt w_59
      refine s_add (pc := 21) rw_244_21 (A := v55.toInt) (B := v58.toInt) rfl rfl (by omega) (fun v61 e62 => to_isn (pc := 22) rw_244_22 (ls2 := [.ref 77, .int n, .int l, .int v61, .int x4, u5, u6, u7, u8]) rfl rfl (s_inc (pc := 23) rw_244_23 (ls2 := fun v => [.ref 77, .int n, .int l, .int v61, .int v, u5, u6, u7, u8]) rfl rfl (fun _ => rfl) (A := x4.toInt) (B := 1) rfl rfl (by omega) (fun v63 e64 => to_go (pc := 26) rw_244_26 ?_)))
      have s_65 : NV N l.toInt (v63.toInt).toNat = l.toInt * NV N l.toInt (x4.toInt).toNat + (N.2.1 123 (x4.toInt).toNat).toInt := by rw [show (v63.toInt).toNat = (x4.toInt).toNat + 1 by omega]; rfl
      have s_66 : l.toInt * x3.toInt = l.toInt * NV N l.toInt (x4.toInt).toNat := by rw [g6]
      have s_67 := NV_b hG (l := l.toInt) (by omega) (by omega) (k := (v63.toInt).toNat) (by omega)
      exact ih N v61 v63 (u5) (u6) (u7) (u8) hG F0 (by omega) (by omega) (by omega) (by omega) (by omega) (by omega) g7 (by omega)
set_option maxRecDepth 4000 in
set_option maxHeartbeats 0 in
theorem C_244 {X : mm_X} {d : Nat} {M : mm_M} {Q : Option Value → mm_M → Prop} {n : Int32} {l : Int32} (hX : g_X X) (hd : 2 ≤ d) (hG : g_G M) (q1 : 0 ≤ n.toInt) (q2 : n.toInt ≤ 6) (q3 : 1 ≤ l.toInt) (q4 : l.toInt ≤ 6) (h : ∀ (r : Int32) (M1 : mm_M), g_G M1 → FR md_ro M M1 → (0 ≤ r.toInt) → (r.toInt ≤ 1) → (r.toInt = 1 → NV M l.toInt (n.toInt).toNat + 1 ≤ NV M1 l.toInt (n.toInt).toNat) → Q (some (.int r)) M1) : mm_T X d 243 0 [.ref 77, .int n, .int l, .null, .null, .null, .null, .null, .null] [] M Q := by
  have F0 : FR md_ro M M := FR.rf
  refine to_c (pc := 0) rw_244_0 (x := (0 : Int32)) rfl rfl (to_isn (pc := 1) rw_244_1 (ls2 := [.ref 77, .int n, .int l, .int (0 : Int32), .null, .null, .null, .null, .null]) rfl rfl (to_c (pc := 2) rw_244_2 (x := (0 : Int32)) rfl rfl (to_is (pc := 3) rw_244_3 (ls2 := [.ref 77, .int n, .int l, .int (0 : Int32), .int (0 : Int32), .null, .null, .null, .null]) rfl rfl ?_)))
  have k_68 : (0 : Int32).toInt = 0 := rfl
  have s_69 : NV M l.toInt ((0 : Int32).toInt).toNat = 0 := rfl
  exact (T_244_2 (n := n) (l := l) hX hd q1 q2 q3 q4 h ((6 - (0 : Int32).toInt).toNat + 1)) M (0 : Int32) (0 : Int32) (.null) (.null) (.null) (.null) hG F0 (by omega) (by omega) (by omega) (by omega) (by omega) (by omega) rfl (by omega)
set_option maxRecDepth 4000 in
set_option maxHeartbeats 0 in
theorem T_245_0 {X : mm_X} {d : Nat} {M : mm_M} {Q : Option Value → mm_M → Prop} {p : Int32} {f : Int32} {w : Int32} (hX : g_X X) (hd : 3 ≤ d) (q1 : NJ M) (q2 : FA M) (h : ∀ (r : Int32) (M1 : mm_M), g_G M1 → FR md_st M M1 → Q (some (.int r)) M1) : ∀ nn9 : Nat, (∀ (N : mm_M) (x4 : Int32) (x5 : Int32) (u6 : Value), g_G N → FR md_st M N → (0 ≤ p.toInt) → (p.toInt ≤ 5) → (0 ≤ f.toInt) → (f.toInt ≤ 7) → (1 ≤ x4.toInt) → (x4.toInt ≤ 6) → (0 ≤ w.toInt) → (w.toInt ≤ 6) → (0 ≤ x5.toInt) → (x5.toInt ≤ 7) → (7 - x5.toInt) * 1000000 + 900000 < (nn9 : Int) → mm_T X d 244 124 [.ref 77, .int p, .int f, .int w, .int x4, .int x5, u6] [] N Q) ∧ (∀ (N : mm_M) (x4 : Int32) (x5 : Int32) (x6 : Int32), g_G N → FR md_st M N → (0 ≤ p.toInt) → (p.toInt ≤ 5) → (0 ≤ f.toInt) → (f.toInt ≤ 7) → (1 ≤ x4.toInt) → (x4.toInt ≤ 6) → (0 ≤ w.toInt) → (w.toInt ≤ 6) → (0 ≤ x5.toInt) → (x5.toInt ≤ 6) → (x5.toInt ≤ x4.toInt) → (0 ≤ x6.toInt) → (x6.toInt ≤ 6) → (7 - x5.toInt) * 1000000 + 800000 - x6.toInt < (nn9 : Int) → mm_T X d 244 134 [.ref 77, .int p, .int f, .int w, .int x4, .int x5, .int x6] [] N Q) ∧ (∀ (N : mm_M) (x4 : Int32) (x5 : Int32) (x6 : Int32), g_G N → FR md_st M N → (0 ≤ p.toInt) → (p.toInt ≤ 5) → (0 ≤ f.toInt) → (f.toInt ≤ 7) → (1 ≤ x4.toInt) → (x4.toInt ≤ 6) → (0 ≤ w.toInt) → (w.toInt ≤ 6) → (0 ≤ x5.toInt) → (x5.toInt ≤ 6) → (x5.toInt ≤ x4.toInt) → (0 ≤ x6.toInt) → (x6.toInt ≤ 1) → (True) → (7 - x5.toInt) * 1000000 + NM x6.toInt (NV N x4.toInt (x5.toInt).toNat) < (nn9 : Int) → mm_T X d 244 159 [.ref 77, .int p, .int f, .int w, .int x4, .int x5, .int x6] [] N Q) := by
  intro nn9
  induction nn9 with
  | zero =>
    refine ⟨?_, ?_, ?_⟩
    · intro N x4 x5 u6 hG F0 g1 g2 g3 g4 g5 g6 g7 g8 g9 g10 hm
      exfalso; omega
    · intro N x4 x5 x6 hG F0 g1 g2 g3 g4 g5 g6 g7 g8 g9 g10 g11 g12 g13 hm
      exfalso; omega
    · intro N x4 x5 x6 hG F0 g1 g2 g3 g4 g5 g6 g7 g8 g9 g10 g11 g12 g13 g14 hm
      have s_1 := NV_b hG (l := x4.toInt) (by omega) (by omega) (k := (x5.toInt).toNat) (by omega)
      have s_2 : x6.toInt = 0 → NM x6.toInt (NV N x4.toInt (x5.toInt).toNat) = 0 := NM_0
      have s_3 : x6.toInt = 1 → NM x6.toInt (NV N x4.toInt (x5.toInt).toNat) = 100000 - NV N x4.toInt (x5.toInt).toNat := NM_1
      exfalso; omega
  | succ nn9 ih =>
    refine ⟨?_, ?_, ?_⟩
    · intro N x4 x5 u6 hG F0 g1 g2 g3 g4 g5 g6 g7 g8 g9 g10 hm
      refine to_i (pc := 124) rw_245_124 rfl (to_i (pc := 126) rw_245_126 rfl (b_cgt (pc := 128) rw_245_128 (A := x5.toInt) (B := x4.toInt) rfl rfl (fun h4 => ?_) (fun h4 => ?_)))
      · refine to_c (pc := 229) rw_245_229 (x := (-2 : Int32)) rfl rfl (to_r0 (pc := 231) rw_245_231 ?_)
        have k_5 : (-2 : Int32).toInt = -2 := rfl
        exact h (-2 : Int32) N hG F0 
      · refine to_c (pc := 131) rw_245_131 (x := (0 : Int32)) rfl rfl (to_is (pc := 132) rw_245_132 (ls2 := [.ref 77, .int p, .int f, .int w, .int x4, .int x5, .int (0 : Int32)]) rfl rfl ?_)
        have k_6 : (0 : Int32).toInt = 0 := rfl
        exact ih.2.1 N x4 x5 (0 : Int32) hG F0 (by omega) (by omega) (by omega) (by omega) (by omega) (by omega) (by omega) (by omega) (by omega) (by omega) (by omega) (by omega) (by omega) (by omega)
    · intro N x4 x5 x6 hG F0 g1 g2 g3 g4 g5 g6 g7 g8 g9 g10 g11 g12 g13 hm
      refine to_i (pc := 134) rw_245_134 rfl (to_i (pc := 136) rw_245_136 rfl (b_cge (pc := 138) rw_245_138 (A := x6.toInt) (B := x5.toInt) rfl rfl (fun h7 => ?_) (fun h7 => ?_)))
      · refine to_c (pc := 156) rw_245_156 (x := (1 : Int32)) rfl rfl (to_is (pc := 157) rw_245_157 (ls2 := [.ref 77, .int p, .int f, .int w, .int x4, .int x5, .int (1 : Int32)]) rfl rfl ?_)
        have k_8 : (1 : Int32).toInt = 1 := rfl
        have s_9 := NV_b hG (l := x4.toInt) (by omega) (by omega) (k := (x5.toInt).toNat) (by omega)
        have s_10 : (1 : Int32).toInt = 0 → NM (1 : Int32).toInt (NV N x4.toInt (x5.toInt).toNat) = 0 := NM_0
        have s_11 : (1 : Int32).toInt = 1 → NM (1 : Int32).toInt (NV N x4.toInt (x5.toInt).toNat) = 100000 - NV N x4.toInt (x5.toInt).toNat := NM_1
        exact ih.2.2 N x4 x5 (1 : Int32) hG F0 (by omega) (by omega) (by omega) (by omega) (by omega) (by omega) (by omega) (by omega) (by omega) (by omega) (by omega) (by omega) (by omega) trivial (by omega)
      · refine to_an (pc := 141) rw_245_141 rfl (s_gR (pc := 142) rw_245_142 hG rfl (v := 123) rfl (to_i (pc := 145) rw_245_145 rfl (to_i (pc := 147) rw_245_147 rfl (s_ias (pc := 149) rw_245_149 hG rfl (n := 6) rfl (A := x6.toInt) rfl (by omega) (by omega) (fun M13 W12 => ?_)))))
        have hG14 := g_w hG W12 (A := x6.toInt) rfl (lo := 0) (hi := 5) rfl rfl (by omega) (by decide)
        have F15 := FR.w F0 W12 (show 123 = 77 ∧ (x6.toInt).toNat = 2 ∨ 94 ≤ 123 ∧ 123 ≤ 98 ∨ 121 ≤ 123 ∧ 123 ≤ 124 by omega)
        refine s_inc (pc := 150) rw_245_150 (ls2 := fun v => [.ref 77, .int p, .int f, .int w, .int x4, .int x5, .int v]) rfl rfl (fun _ => rfl) (A := x6.toInt) (B := 1) rfl rfl (by omega) (fun v16 e17 => to_go (pc := 153) rw_245_153 ?_)
        exact ih.2.1 M13 x4 x5 v16 hG14 F15 (by omega) (by omega) (by omega) (by omega) (by omega) (by omega) (by omega) (by omega) (by omega) (by omega) (by omega) (by omega) (by omega) (by omega)
    · intro N x4 x5 x6 hG F0 g1 g2 g3 g4 g5 g6 g7 g8 g9 g10 g11 g12 g13 g14 hm
      have s_18 := NV_b hG (l := x4.toInt) (by omega) (by omega) (k := (x5.toInt).toNat) (by omega)
      have s_19 : x6.toInt = 0 → NM x6.toInt (NV N x4.toInt (x5.toInt).toNat) = 0 := NM_0
      have s_20 : x6.toInt = 1 → NM x6.toInt (NV N x4.toInt (x5.toInt).toNat) = 100000 - NV N x4.toInt (x5.toInt).toNat := NM_1
      refine to_i (pc := 159) rw_245_159 rfl (b_ieq (pc := 161) rw_245_161 (A := x6.toInt) rfl (fun h21 => ?_) (fun h21 => ?_))
      · refine s_inc (pc := 223) rw_245_223 (ls2 := fun v => [.ref 77, .int p, .int f, .int w, .int x4, .int v, .int x6]) rfl rfl (fun _ => rfl) (A := x5.toInt) (B := 1) rfl rfl (by omega) (fun v22 e23 => to_go (pc := 226) rw_245_226 ?_)
        exact ih.1 N x4 v22 (.int x6) hG F0 (by omega) (by omega) (by omega) (by omega) (by omega) (by omega) (by omega) (by omega) (by omega) (by omega) (by omega)
      · refine to_an (pc := 164) rw_245_164 rfl (to_in (pc := 165) rw_245_165 rfl (to_in (pc := 166) rw_245_166 rfl (to_i (pc := 167) rw_245_167 rfl (s_v (pc := 169) rw_245_169 (dp0 hd (by decide)) (ls0 := [.ref 77, .int p, .int f, .int x5, .null, .null, .null, .null]) rfl (Nat.le_of_ble_eq_true rfl) (Nat.le_of_ble_eq_true rfl) rfl (to_rc rfl rfl rfl (g_o hG rfl)) rfl (C_243 hX (dp1 hd (by decide)) hG (by omega) (by omega) (by omega) (by omega) (by omega) (by omega) (p := p) (f := f) (n := x5) (fun r24 M29 hG26 F25 p_27 p_28 => ?_))))))
        have F30 := FR.c F0 F25 tg_359
        refine b_ieq (pc := 172) rw_245_172 (A := r24.toInt) rfl (fun h31 => ?_) (fun h31 => ?_)
        · refine to_an (pc := 210) rw_245_210 rfl (to_i (pc := 211) rw_245_211 rfl (to_i (pc := 213) rw_245_213 rfl (s_v (pc := 215) rw_245_215 (dp0 hd (by decide)) (ls0 := [.ref 77, .int x5, .int x4, .null, .null, .null, .null, .null, .null]) rfl (Nat.le_of_ble_eq_true rfl) (Nat.le_of_ble_eq_true rfl) rfl (to_rc rfl rfl rfl (g_o hG26 rfl)) rfl (C_244 hX (dp1 hd (by decide)) hG26 (by omega) (by omega) (by omega) (by omega) (n := x5) (l := x4) (fun r32 M38 hG34 F33 p_35 p_36 p_37 => ?_)))))
          have F39 := FR.c F30 F33 tg_360
          refine to_is (pc := 218) rw_245_218 (ls2 := [.ref 77, .int p, .int f, .int w, .int x4, .int x5, .int r32]) rfl rfl (to_go (pc := 220) rw_245_220 ?_)
          have s_40 := NV_b hG34 (l := x4.toInt) (by omega) (by omega) (k := (x5.toInt).toNat) (by omega)
          have s_41 : r32.toInt = 0 → NM r32.toInt (NV M38 x4.toInt (x5.toInt).toNat) = 0 := NM_0
          have s_42 : r32.toInt = 1 → NM r32.toInt (NV M38 x4.toInt (x5.toInt).toNat) = 100000 - NV M38 x4.toInt (x5.toInt).toNat := NM_1
          have s_43 := p_37
          have s_44 : NV M29 x4.toInt (x5.toInt).toNat = NV N x4.toInt (x5.toInt).toNat := NV_f (fun i => (F_n F25 (show ¬ (123 = 121 ∨ 123 = 122) by decide) rfl)) _
          exact ih.2.2 M38 x4 x5 r32 hG34 F39 (by omega) (by omega) (by omega) (by omega) (by omega) (by omega) (by omega) (by omega) (by omega) (by omega) (by omega) (by omega) (by omega) trivial (by omega)
        · refine to_in (pc := 175) rw_245_175 rfl (b_ine (pc := 176) rw_245_176 (A := w.toInt) rfl (fun h45 => ?_) (fun h45 => ?_))
          · refine to_in (pc := 184) rw_245_184 rfl (to_i (pc := 185) rw_245_185 rfl (b_cgt (pc := 187) rw_245_187 (A := w.toInt) (B := x5.toInt) rfl rfl (fun h46 => ?_) (fun h46 => ?_)))
            · refine to_c (pc := 208) rw_245_208 (x := (-1 : Int32)) rfl rfl (to_r0 (pc := 209) rw_245_209 ?_)
              have k_47 : (-1 : Int32).toInt = -1 := rfl
              exact h (-1 : Int32) M29 hG26 F30 
            · refine to_an (pc := 190) rw_245_190 rfl (s_gR (pc := 191) rw_245_191 hG26 rfl (v := 82) rfl (to_in (pc := 194) rw_245_194 rfl (s_ial (pc := 195) rw_245_195 hG26 rfl (n := 16) rfl rfl (A := f.toInt) rfl (by omega) (by omega) (lo := 0) (hi := 59) rfl rfl (fun v48 w_49 _ _ => to_an (pc := 196) rw_245_196 rfl (s_gR (pc := 197) rw_245_197 hG26 rfl (v := 123) rfl (to_in (pc := 200) rw_245_200 rfl (to_c (pc := 201) rw_245_201 (x := (1 : Int32)) rfl rfl (s_sub (pc := 202) rw_245_202 (A := w.toInt) (B := 1) rfl rfl (by omega) (fun v50 e51 => s_ial (pc := 203) rw_245_203 hG26 rfl (n := 6) rfl rfl (A := v50.toInt) rfl (by omega) (by omega) (lo := 0) (hi := 5) rfl rfl (fun v52 w_53 _ _ => s_add (pc := 204) rw_245_204 (A := v48.toInt) (B := v52.toInt) rfl rfl (by omega) (fun v54 e55 => to_go (pc := 205) rw_245_205 ?_)))))))))))
              refine to_r0 (pc := 209) rw_245_209 ?_
              exact h v54 M29 hG26 F30 
          · refine to_i (pc := 179) rw_245_179 rfl (to_go (pc := 181) rw_245_181 (to_r0 (pc := 209) rw_245_209 ?_))
            exact h x5 M29 hG26 F30 
set_option maxRecDepth 4000 in
set_option maxHeartbeats 0 in
theorem T_245_1 {X : mm_X} {d : Nat} {M : mm_M} {Q : Option Value → mm_M → Prop} {p : Int32} {f : Int32} {w : Int32} (hX : g_X X) (hd : 3 ≤ d) (q1 : NJ M) (q2 : FA M) (h : ∀ (r : Int32) (M1 : mm_M), g_G M1 → FR md_st M M1 → Q (some (.int r)) M1) : ∀ nn9 : Nat, (∀ (N : mm_M) (x4 : Int32) (x5 : Int32) (u6 : Value), g_G N → FR md_st M N → (0 ≤ p.toInt) → (p.toInt ≤ 5) → (0 ≤ f.toInt) → (f.toInt ≤ 7) → (1 ≤ x4.toInt) → (x4.toInt ≤ 6) → (0 ≤ w.toInt) → (w.toInt ≤ 6) → (0 ≤ x5.toInt) → (x5.toInt ≤ 30) → (30 - x5.toInt) * 100 + 50 < (nn9 : Int) → mm_T X d 244 60 [.ref 77, .int p, .int f, .int w, .int x4, .int x5, u6] [] N Q) ∧ (∀ (N : mm_M) (x4 : Int32) (x5 : Int32) (x6 : Int32), g_G N → FR md_st M N → (0 ≤ p.toInt) → (p.toInt ≤ 5) → (0 ≤ f.toInt) → (f.toInt ≤ 7) → (1 ≤ x4.toInt) → (x4.toInt ≤ 6) → (0 ≤ w.toInt) → (w.toInt ≤ 6) → (0 ≤ x5.toInt) → (x5.toInt ≤ 29) → (0 ≤ x6.toInt) → (x6.toInt ≤ 6) → (30 - x5.toInt) * 100 + 6 - x6.toInt < (nn9 : Int) → mm_T X d 244 72 [.ref 77, .int p, .int f, .int w, .int x4, .int x5, .int x6] [] N Q) := by
  intro nn9
  induction nn9 with
  | zero =>
    refine ⟨?_, ?_⟩
    · intro N x4 x5 u6 hG F0 g1 g2 g3 g4 g5 g6 g7 g8 g9 g10 hm
      exfalso; omega
    · intro N x4 x5 x6 hG F0 g1 g2 g3 g4 g5 g6 g7 g8 g9 g10 g11 g12 hm
      exfalso; omega
  | succ nn9 ih =>
    refine ⟨?_, ?_⟩
    · intro N x4 x5 u6 hG F0 g1 g2 g3 g4 g5 g6 g7 g8 g9 g10 hm
      refine to_i (pc := 60) rw_245_60 rfl (to_an (pc := 62) rw_245_62 rfl ?_)
      have b_56 := g_b hG (a := 77) (i := 28) (lo := 0) (hi := 30) rfl rfl
      refine tt_gI (pc := 63) rw_245_63 (g_o hG rfl) (v := (N.2.1 77 28)) rfl (b_cge (pc := 66) rw_245_66 (A := x5.toInt) (B := (N.2.1 77 28).toInt) rfl rfl (fun h57 => ?_) (fun h57 => ?_))
      · refine to_c (pc := 121) rw_245_121 (x := (0 : Int32)) rfl rfl (to_is (pc := 122) rw_245_122 (ls2 := [.ref 77, .int p, .int f, .int w, .int x4, .int (0 : Int32), u6]) rfl rfl ?_)
        have k_58 : (0 : Int32).toInt = 0 := rfl
        exact (T_245_0 (p := p) (f := f) (w := w) hX hd q1 q2 h (((7 - (0 : Int32).toInt) * 1000000 + 900000).toNat + 1)).1 N x4 (0 : Int32) (u6) hG F0 (by omega) (by omega) (by omega) (by omega) (by omega) (by omega) (by omega) (by omega) (by omega) (by omega) (by omega)
      · refine to_c (pc := 69) rw_245_69 (x := (0 : Int32)) rfl rfl (to_is (pc := 70) rw_245_70 (ls2 := [.ref 77, .int p, .int f, .int w, .int x4, .int x5, .int (0 : Int32)]) rfl rfl ?_)
        have k_59 : (0 : Int32).toInt = 0 := rfl
        exact ih.2 N x4 x5 (0 : Int32) hG F0 (by omega) (by omega) (by omega) (by omega) (by omega) (by omega) (by omega) (by omega) (by omega) (by omega) (by omega) (by omega) (by omega)
    · intro N x4 x5 x6 hG F0 g1 g2 g3 g4 g5 g6 g7 g8 g9 g10 g11 g12 hm
      refine to_i (pc := 72) rw_245_72 rfl (to_i (pc := 74) rw_245_74 rfl (b_cge (pc := 76) rw_245_76 (A := x6.toInt) (B := x4.toInt) rfl rfl (fun h60 => ?_) (fun h60 => ?_)))
      · refine s_inc (pc := 115) rw_245_115 (ls2 := fun v => [.ref 77, .int p, .int f, .int w, .int x4, .int v, .int x6]) rfl rfl (fun _ => rfl) (A := x5.toInt) (B := 1) rfl rfl (by omega) (fun v61 e62 => to_go (pc := 118) rw_245_118 ?_)
        exact ih.1 N x4 v61 (.int x6) hG F0 (by omega) (by omega) (by omega) (by omega) (by omega) (by omega) (by omega) (by omega) (by omega) (by omega) (by omega)
      · refine to_an (pc := 79) rw_245_79 rfl (s_gR (pc := 80) rw_245_80 hG rfl (v := 124) rfl (to_c (pc := 83) rw_245_83 (x := (6 : Int32)) rfl rfl (to_i (pc := 85) rw_245_85 rfl (s_mul (pc := 87) rw_245_87 (A := 6) (B := x5.toInt) rfl rfl (by omega) (fun v63 e64 => to_i (pc := 88) rw_245_88 rfl (s_add (pc := 90) rw_245_90 (A := v63.toInt) (B := x6.toInt) rfl rfl (by omega) (fun v65 e66 => to_an (pc := 91) rw_245_91 rfl (to_i (pc := 92) rw_245_92 rfl (s_cl (pc := 94) rw_245_94 rfl (fun l67 => to_an (pc := 95) rw_245_95 rfl (s_gR (pc := 96) rw_245_96 hG rfl (v := 82) rfl ?_)))))))))))
        refine to_in (pc := 99) rw_245_99 rfl (s_ial (pc := 100) rw_245_100 hG rfl (n := 16) rfl rfl (A := f.toInt) rfl (by omega) (by omega) (lo := 0) (hi := 59) rfl rfl (fun v68 w_69 _ _ => to_i (pc := 101) rw_245_101 rfl (s_add (pc := 103) rw_245_103 (A := v68.toInt) (B := x6.toInt) rfl rfl (by omega) (fun v70 e71 => s_anyS (pc := 104) rw_245_104 (fun _ _ => rfl) (fun l72 => s_v (pc := 105) rw_245_105 (dp0 hd (by decide)) (ls0 := [.ref 77, .int x5, .long l72, .null, .null]) rfl (Nat.le_of_ble_eq_true rfl) (Nat.le_of_ble_eq_true rfl) rfl (to_rc rfl rfl rfl (g_o hG rfl)) rfl (C_207 hX (dp1 hd (by decide)) hG (by omega) (by omega) (c := x5) (x := l72) (fun r73 M78 hG75 F74 p_76 p_77 => ?_)))))))
        have F79 := FR.c F0 F74 tg_361
        refine s_zas (pc := 108) rw_245_108 hG75 rfl (n := 180) rfl (A := v65.toInt) rfl (by omega) (by omega) (B := r73.toInt) rfl (by omega) (fun M81 W80 => ?_)
        have hG82 := g_w hG75 W80 (A := r73.toInt) rfl (lo := 0) (hi := 1) rfl rfl (by omega) (by decide)
        have F83 := FR.w F79 W80 (show 124 = 77 ∧ (v65.toInt).toNat = 2 ∨ 94 ≤ 124 ∧ 124 ≤ 98 ∨ 121 ≤ 124 ∧ 124 ≤ 124 by omega)
        refine s_inc (pc := 109) rw_245_109 (ls2 := fun v => [.ref 77, .int p, .int f, .int w, .int x4, .int x5, .int v]) rfl rfl (fun _ => rfl) (A := x6.toInt) (B := 1) rfl rfl (by omega) (fun v84 e85 => to_go (pc := 112) rw_245_112 ?_)
        exact ih.2 M81 x4 x5 v84 hG82 F83 (by omega) (by omega) (by omega) (by omega) (by omega) (by omega) (by omega) (by omega) (by omega) (by omega) (by omega) (by omega) (by omega)
set_option maxRecDepth 4000 in
set_option maxHeartbeats 0 in
theorem C_245 {X : mm_X} {d : Nat} {M : mm_M} {Q : Option Value → mm_M → Prop} {p : Int32} {f : Int32} {w : Int32} (hX : g_X X) (hd : 3 ≤ d) (hG : g_G M) (q1 : NJ M) (q2 : FA M) (h : ∀ (r : Int32) (M1 : mm_M), g_G M1 → FR md_st M M1 → Q (some (.int r)) M1) : mm_T X d 244 0 [.ref 77, .int p, .int f, .int w, .null, .null, .null] [] M Q := by
  have F0 : FR md_st M M := FR.rf
  refine to_an (pc := 0) rw_245_0 rfl (to_c (pc := 1) rw_245_1 (x := (0 : Int32)) rfl rfl (s_pI (pc := 2) rw_245_2 hG rfl (fun M87 W86 => ?_)))
  have hG88 := g_wf hG W86 rfl rfl (by decide)
  have F89 := FR.w F0 W86 (show 77 = 77 ∧ 2 = 2 ∨ 94 ≤ 77 ∧ 77 ≤ 98 ∨ 121 ≤ 77 ∧ 77 ≤ 124 by decide)
  refine to_in (pc := 5) rw_245_5 rfl (s_s (pc := 6) rw_245_6 (dp0 hd (by decide)) (ls0 := [.int p]) rfl (Nat.le_of_ble_eq_true rfl) (Nat.le_of_ble_eq_true rfl) rfl (to_rcs rfl rfl) rfl (to_in (pc := 0) rw_205_0 rfl (b_ilt (pc := 1) rw_205_1 (A := p.toInt) rfl (fun h90 => ?_) (fun h90 => ?_))))
  · refine to_c (pc := 14) rw_205_14 (x := (0 : Int32)) rfl rfl (s_r1 (pc := 15) rw_205_15 (A := 0) rfl (by decide) (b_ieq_t (pc := 9) rw_245_9 (A := 0) rfl (by decide) (to_c (pc := 40) rw_245_40 (x := (-1 : Int32)) rfl rfl (to_r0 (pc := 41) rw_245_41 ?_))))
    have k_91 : (-1 : Int32).toInt = -1 := rfl
    exact h (-1 : Int32) M87 hG88 F89 
  · refine to_in (pc := 4) rw_205_4 rfl (to_c (pc := 5) rw_205_5 (x := (6 : Int32)) rfl rfl (b_cge (pc := 7) rw_205_7 (A := p.toInt) (B := 6) rfl rfl (fun h92 => ?_) (fun h92 => ?_)))
    · refine to_c (pc := 14) rw_205_14 (x := (0 : Int32)) rfl rfl (s_r1 (pc := 15) rw_205_15 (A := 0) rfl (by decide) (b_ieq_t (pc := 9) rw_245_9 (A := 0) rfl (by decide) (to_c (pc := 40) rw_245_40 (x := (-1 : Int32)) rfl rfl (to_r0 (pc := 41) rw_245_41 ?_))))
      have k_93 : (-1 : Int32).toInt = -1 := rfl
      exact h (-1 : Int32) M87 hG88 F89 
    · refine to_c (pc := 10) rw_205_10 (x := (1 : Int32)) rfl rfl (to_go (pc := 11) rw_205_11 (s_r1 (pc := 15) rw_205_15 (A := 1) rfl (by decide) (b_ieq_f (pc := 9) rw_245_9 (A := 1) rfl (by decide) (to_an (pc := 12) rw_245_12 rfl (to_in (pc := 13) rw_245_13 rfl (s_v (pc := 14) rw_245_14 (dp0 hd (by decide)) (ls0 := [.ref 77, .int f]) rfl (Nat.le_of_ble_eq_true rfl) (Nat.le_of_ble_eq_true rfl) rfl (to_rc rfl rfl rfl (g_o hG88 rfl)) rfl (to_an (pc := 0) rw_179_0 rfl (to_in (pc := 1) rw_179_1 rfl (s_v (pc := 2) rw_179_2 (dp1 hd (by decide)) (ls0 := [.ref 77, .int f]) rfl (Nat.le_of_ble_eq_true rfl) (Nat.le_of_ble_eq_true rfl) rfl (to_rc rfl rfl rfl (g_o hG88 rfl)) rfl (to_in (pc := 0) rw_178_0 rfl (b_ilt (pc := 1) rw_178_1 (A := f.toInt) rfl (fun h94 => ?_) (fun h94 => ?_))))))))))))
      · refine to_c (pc := 16) rw_178_16 (x := (0 : Int32)) rfl rfl (s_r1 (pc := 17) rw_178_17 (A := 0) rfl (by decide) (b_ieq_t (pc := 5) rw_179_5 (A := 0) rfl (by decide) (to_c (pc := 22) rw_179_22 (x := (0 : Int32)) rfl rfl (s_r1 (pc := 23) rw_179_23 (A := 0) rfl (by decide) (b_ieq_t (pc := 17) rw_245_17 (A := 0) rfl (by decide) (to_c (pc := 40) rw_245_40 (x := (-1 : Int32)) rfl rfl (to_r0 (pc := 41) rw_245_41 ?_)))))))
        have k_95 : (-1 : Int32).toInt = -1 := rfl
        exact h (-1 : Int32) M87 hG88 F89 
      · refine to_in (pc := 4) rw_178_4 rfl (to_an (pc := 5) rw_178_5 rfl ?_)
        have c_96 : M87.2.1 77 12 = (M.2.1 77 12) := (W_n W86 (by decide) rfl)
        have b_97 := g_b hG (a := 77) (i := 12) (lo := 0) (hi := 8) rfl rfl
        refine tt_gI (pc := 6) rw_178_6 (g_o hG88 rfl) (v := (M.2.1 77 12)) c_96 (b_cge (pc := 9) rw_178_9 (A := f.toInt) (B := (M.2.1 77 12).toInt) rfl rfl (fun h98 => ?_) (fun h98 => ?_))
        · refine to_c (pc := 16) rw_178_16 (x := (0 : Int32)) rfl rfl (s_r1 (pc := 17) rw_178_17 (A := 0) rfl (by decide) (b_ieq_t (pc := 5) rw_179_5 (A := 0) rfl (by decide) (to_c (pc := 22) rw_179_22 (x := (0 : Int32)) rfl rfl (s_r1 (pc := 23) rw_179_23 (A := 0) rfl (by decide) (b_ieq_t (pc := 17) rw_245_17 (A := 0) rfl (by decide) (to_c (pc := 40) rw_245_40 (x := (-1 : Int32)) rfl rfl (to_r0 (pc := 41) rw_245_41 ?_)))))))
          have k_99 : (-1 : Int32).toInt = -1 := rfl
          exact h (-1 : Int32) M87 hG88 F89 
        · refine to_c (pc := 12) rw_178_12 (x := (1 : Int32)) rfl rfl (to_go (pc := 13) rw_178_13 (s_r1 (pc := 17) rw_178_17 (A := 1) rfl (by decide) (b_ieq_f (pc := 5) rw_179_5 (A := 1) rfl (by decide) (to_an (pc := 8) rw_179_8 rfl (s_gR (pc := 9) rw_179_9 hG88 rfl (v := 81) rfl (to_in (pc := 12) rw_179_12 rfl (s_ial (pc := 13) rw_179_13 hG88 rfl (n := 16) rfl rfl (A := f.toInt) rfl (by omega) (by omega) (lo := 0) (hi := 3) rfl rfl (fun v100 w_101 _ _ => ?_))))))))
          have t_102 := congrArg Int32.toInt w_101
          have j_104 := (FA_f (fun a i z => W_n W86 (tg_94 a i z) rfl) q2)
          have j_103 := FA_u j_104 (f.toInt).toNat
          have t_105 : (M87.2.1 81 (f.toInt).toNat).toInt = (M.2.1 81 (f.toInt).toNat).toInt := congrArg Int32.toInt (W_n W86 (by omega) rfl)
          have t_106 : (M87.2.1 84 (f.toInt).toNat).toInt = (M.2.1 84 (f.toInt).toNat).toInt := congrArg Int32.toInt (W_n W86 (by omega) rfl)
          have j_107 := FA_u q2 (f.toInt).toNat
          refine to_c (pc := 14) rw_179_14 (x := (3 : Int32)) rfl rfl (b_ceq (pc := 15) rw_179_15 (A := v100.toInt) (B := 3) rfl rfl (fun h108 => ?_) (fun h108 => ?_))
          · refine to_c (pc := 22) rw_179_22 (x := (0 : Int32)) rfl rfl (s_r1 (pc := 23) rw_179_23 (A := 0) rfl (by decide) (b_ieq_t (pc := 17) rw_245_17 (A := 0) rfl (by decide) (to_c (pc := 40) rw_245_40 (x := (-1 : Int32)) rfl rfl (to_r0 (pc := 41) rw_245_41 ?_))))
            have k_109 : (-1 : Int32).toInt = -1 := rfl
            exact h (-1 : Int32) M87 hG88 F89 
          · refine to_c (pc := 18) rw_179_18 (x := (1 : Int32)) rfl rfl (to_go (pc := 19) rw_179_19 (s_r1 (pc := 23) rw_179_23 (A := 1) rfl (by decide) (b_ieq_f (pc := 17) rw_245_17 (A := 1) rfl (by decide) (to_an (pc := 20) rw_245_20 rfl (to_in (pc := 21) rw_245_21 rfl (s_v (pc := 22) rw_245_22 (dp0 hd (by decide)) (ls0 := [.ref 77, .int f]) rfl (Nat.le_of_ble_eq_true rfl) (Nat.le_of_ble_eq_true rfl) rfl (to_rc rfl rfl rfl (g_o hG88 rfl)) rfl (to_an (pc := 0) rw_197_0 rfl (s_gR (pc := 1) rw_197_1 hG88 rfl (v := 83) rfl (to_in (pc := 4) rw_197_4 rfl (s_ial (pc := 5) rw_197_5 hG88 rfl (n := 16) rfl rfl (A := f.toInt) rfl (by omega) (by omega) (lo := 0) (hi := 63) rfl rfl (fun v110 w_111 _ _ => ?_)))))))))))
            have t_112 := congrArg Int32.toInt w_111
            have t_113 : (M87.2.1 82 (f.toInt).toNat).toInt = (M.2.1 82 (f.toInt).toNat).toInt := congrArg Int32.toInt (W_n W86 (by omega) rfl)
            have t_114 : (M87.2.1 83 (f.toInt).toNat).toInt = (M.2.1 83 (f.toInt).toNat).toInt := congrArg Int32.toInt (W_n W86 (by omega) rfl)
            refine to_an (pc := 6) rw_197_6 rfl (s_gR (pc := 7) rw_197_7 hG88 rfl (v := 82) rfl (to_in (pc := 10) rw_197_10 rfl (s_ial (pc := 11) rw_197_11 hG88 rfl (n := 16) rfl rfl (A := f.toInt) rfl (by omega) (by omega) (lo := 0) (hi := 59) rfl rfl (fun v115 w_116 _ _ => ?_))))
            have t_117 := congrArg Int32.toInt w_116
            have t_118 : (M87.2.1 82 (f.toInt).toNat).toInt = (M.2.1 82 (f.toInt).toNat).toInt := congrArg Int32.toInt (W_n W86 (by omega) rfl)
            have t_119 : (M87.2.1 83 (f.toInt).toNat).toInt = (M.2.1 83 (f.toInt).toNat).toInt := congrArg Int32.toInt (W_n W86 (by omega) rfl)
            refine s_sub (pc := 12) rw_197_12 (A := v110.toInt) (B := v115.toInt) rfl rfl (by omega) (fun v120 e121 => to_c (pc := 13) rw_197_13 (x := (1 : Int32)) rfl rfl (s_add (pc := 14) rw_197_14 (A := v120.toInt) (B := 1) rfl rfl (by omega) (fun v122 e123 => to_r0 (pc := 15) rw_197_15 (to_c (pc := 25) rw_245_25 (x := (6 : Int32)) rfl rfl (b_cgt (pc := 27) rw_245_27 (A := v122.toInt) (B := 6) rfl rfl (fun h124 => ?_) (fun h124 => ?_))))))
            · refine to_c (pc := 40) rw_245_40 (x := (-1 : Int32)) rfl rfl (to_r0 (pc := 41) rw_245_41 ?_)
              have k_125 : (-1 : Int32).toInt = -1 := rfl
              exact h (-1 : Int32) M87 hG88 F89 
            · refine to_in (pc := 30) rw_245_30 rfl (to_c (pc := 31) rw_245_31 (x := (0 : Int32)) rfl rfl (to_c (pc := 32) rw_245_32 (x := (6 : Int32)) rfl rfl (s_s (pc := 34) rw_245_34 (dp0 hd (by decide)) (ls0 := [.int w, .int (0 : Int32), .int (6 : Int32)]) rfl (Nat.le_of_ble_eq_true rfl) (Nat.le_of_ble_eq_true rfl) rfl (to_rcs rfl rfl) rfl (to_in (pc := 0) rw_149_0 rfl (to_in (pc := 1) rw_149_1 rfl (b_clt (pc := 2) rw_149_2 (A := w.toInt) (B := 0) rfl rfl (fun h126 => ?_) (fun h126 => ?_)))))))
              · refine to_c (pc := 14) rw_149_14 (x := (0 : Int32)) rfl rfl (s_r1 (pc := 15) rw_149_15 (A := 0) rfl (by decide) (b_ine_f (pc := 37) rw_245_37 (A := 0) rfl (by decide) (to_c (pc := 40) rw_245_40 (x := (-1 : Int32)) rfl rfl (to_r0 (pc := 41) rw_245_41 ?_))))
                have k_127 : (-1 : Int32).toInt = -1 := rfl
                exact h (-1 : Int32) M87 hG88 F89 
              · refine to_in (pc := 5) rw_149_5 rfl (to_in (pc := 6) rw_149_6 rfl (b_cgt (pc := 7) rw_149_7 (A := w.toInt) (B := 6) rfl rfl (fun h128 => ?_) (fun h128 => ?_)))
                · refine to_c (pc := 14) rw_149_14 (x := (0 : Int32)) rfl rfl (s_r1 (pc := 15) rw_149_15 (A := 0) rfl (by decide) (b_ine_f (pc := 37) rw_245_37 (A := 0) rfl (by decide) (to_c (pc := 40) rw_245_40 (x := (-1 : Int32)) rfl rfl (to_r0 (pc := 41) rw_245_41 ?_))))
                  have k_129 : (-1 : Int32).toInt = -1 := rfl
                  exact h (-1 : Int32) M87 hG88 F89 
                · refine to_c (pc := 10) rw_149_10 (x := (1 : Int32)) rfl rfl (to_go (pc := 11) rw_149_11 (s_r1 (pc := 15) rw_149_15 (A := 1) rfl (by decide) (b_ine_t (pc := 37) rw_245_37 (A := 1) rfl (by decide) (to_an (pc := 42) rw_245_42 rfl (to_an (pc := 43) rw_245_43 rfl ?_)))))
                  have c_130 : M87.2.1 77 29 = (M.2.1 77 29) := (W_n W86 (by decide) rfl)
                  have b_131 := g_b hG (a := 77) (i := 29) (lo := 0) (hi := 150) rfl rfl
                  refine tt_gI (pc := 44) rw_245_44 (g_o hG88 rfl) (v := (M.2.1 77 29)) c_130 (s_v (pc := 47) rw_245_47 (dp0 hd (by decide)) (ls0 := [.ref 77, .int (M.2.1 77 29), .null, .null]) rfl (Nat.le_of_ble_eq_true rfl) (Nat.le_of_ble_eq_true rfl) rfl (to_rc rfl rfl rfl (g_o hG88 rfl)) rfl ?_)
                  have t_132 : (M87.2.1 77 29).toInt = (M.2.1 77 29).toInt := congrArg Int32.toInt c_130
                  have j_133 := (NJ_f (fun a i z => W_n W86 (by /-r77,2-/ omega) rfl) q1)
                  refine C_189 hX (dp1 hd (by decide)) hG88 (by omega) (by omega) (by omega) j_133 (n := (M.2.1 77 29)) (fun M136 hG135 F134 => ?_)
                  have F137 := FR.c F89 F134 tg_362
                  refine to_an (pc := 50) rw_245_50 rfl (to_in (pc := 51) rw_245_51 rfl (s_v (pc := 52) rw_245_52 (dp0 hd (by decide)) (ls0 := [.ref 77, .int f]) rfl (Nat.le_of_ble_eq_true rfl) (Nat.le_of_ble_eq_true rfl) rfl (to_rc rfl rfl rfl (g_o hG135 rfl)) rfl (to_an (pc := 0) rw_197_0 rfl (s_gR (pc := 1) rw_197_1 hG135 rfl (v := 83) rfl (to_in (pc := 4) rw_197_4 rfl (s_ialk (pc := 5) rw_197_5 hG135 rfl (n := 16) rfl rfl (A := f.toInt) rfl (by omega) (by omega) (v := v110) (F_n F134 (show ¬ (94 ≤ 83 ∧ 83 ≤ 98) by decide) w_111) (to_an (pc := 6) rw_197_6 rfl (s_gR (pc := 7) rw_197_7 hG135 rfl (v := 82) rfl (to_in (pc := 10) rw_197_10 rfl (s_ialk (pc := 11) rw_197_11 hG135 rfl (n := 16) rfl rfl (A := f.toInt) rfl (by omega) (by omega) (v := v115) (F_n F134 (show ¬ (94 ≤ 82 ∧ 82 ≤ 98) by decide) w_116) (s_sub (pc := 12) rw_197_12 (A := v110.toInt) (B := v115.toInt) rfl rfl (by omega) (fun v142 e143 => ?_))))))))))))
                  refine to_c (pc := 13) rw_197_13 (x := (1 : Int32)) rfl rfl (s_add (pc := 14) rw_197_14 (A := v142.toInt) (B := 1) rfl rfl (by omega) (fun v144 e145 => to_r0 (pc := 15) rw_197_15 (to_is (pc := 55) rw_245_55 (ls2 := [.ref 77, .int p, .int f, .int w, .int v144, .null, .null]) rfl rfl (to_c (pc := 57) rw_245_57 (x := (0 : Int32)) rfl rfl (to_is (pc := 58) rw_245_58 (ls2 := [.ref 77, .int p, .int f, .int w, .int v144, .int (0 : Int32), .null]) rfl rfl ?_)))))
                  have k_146 : (0 : Int32).toInt = 0 := rfl
                  exact (T_245_1 (p := p) (f := f) (w := w) hX hd q1 q2 h (((30 - (0 : Int32).toInt) * 100 + 50).toNat + 1)).1 M136 v144 (0 : Int32) (.null) hG135 F137 (by omega) (by omega) (by omega) (by omega) (by omega) (by omega) (by omega) (by omega) (by omega) (by omega) (by omega)
end
section
set_option maxRecDepth 4000 in
set_option maxHeartbeats 0 in
theorem E_77 {X : mm_X} {d : Nat} {M : mm_M} {Q : Option Value → mm_M → Prop} {x : Int32} (hX : g_X X) (hd : 0 ≤ d) (hG : g_G M) (q1 : (M.2.1 1 1).toInt ≤ 496) (h : ∀ (M1 : mm_M), g_G M1 → FR md_a M M1 → ((M1.2.1 1 1).toInt = (M.2.1 1 1).toInt + 4) → (AP M M1 x) → Q (none) M1) : mm_T X d 77 0 [.ref 1, .int x, .null] [] M Q := by
  have F0 : FR md_a M M := FR.rf
  have b_1 := g_b hG (a := 1) (i := 1) (lo := 0) (hi := 500) rfl rfl
  refine to_c (pc := 0) rw_77_0 (x := (24 : Int32)) rfl rfl (to_isn (pc := 2) rw_77_2 (ls2 := [.ref 1, .int x, .int (24 : Int32)]) rfl rfl (to_in (pc := 3) rw_77_3 rfl (b_ilt_f (pc := 4) rw_77_4 (A := 24) rfl (by decide) (to_an (pc := 7) rw_77_7 rfl (tt_gI (pc := 8) rw_77_8 (g_o hG rfl) (v := (M.2.1 1 1)) rfl (to_an (pc := 11) rw_77_11 rfl (s_gR (pc := 12) rw_77_12 hG rfl (v := 2) rfl (s_len (pc := 15) rw_77_15 hG rfl rfl (n := 500) rfl (v := (500 : Int32)) rfl (b_cge_f (pc := 16) rw_77_16 (A := (M.2.1 1 1).toInt) (B := 500) rfl rfl (by omega) (to_an (pc := 19) rw_77_19 rfl (s_gR (pc := 20) rw_77_20 hG rfl (v := 2) rfl ?_)))))))))))
  refine to_an (pc := 23) rw_77_23 rfl (tt_gI (pc := 24) rw_77_24 (g_o hG rfl) (v := (M.2.1 1 1)) rfl (to_in (pc := 27) rw_77_27 rfl (to_in (pc := 28) rw_77_28 rfl (s_opE (pc := 29) rw_77_29 (w := x >>> (24 : Int32)) rfl (fun v2 e3 => to_i2b (pc := 30) rw_77_30 (v := (v2.toInt8.toInt32)) rfl (s_basE (pc := 31) rw_77_31 hG rfl (n := 500) rfl (A := (M.2.1 1 1).toInt) rfl (by omega) (by omega) (fun M5 W4 => ?_)))))))
  have hG6 := g_wf hG W4 rfl rfl (by decide)
  have F7 := FR.w F0 W4 (show 2 = 1 ∧ ((M.2.1 1 1).toInt).toNat = 1 ∨ 2 = 2 by omega)
  have k_8 : (24 : Int32).toInt = 24 := rfl
  have z_9 := x_by_b (x := x) (v := (24 : Int32)) (j := 0) (by omega) e3
  refine to_an (pc := 32) rw_77_32 rfl (to_dupr (pc := 33) rw_77_33 ?_)
  have c_10 : M5.2.1 1 1 = (M.2.1 1 1) := (W_n W4 (fun z => absurd z.1 (by decide)) rfl)
  refine tt_gI (pc := 34) rw_77_34 (g_o hG6 rfl) (v := (M.2.1 1 1)) c_10 (to_c (pc := 37) rw_77_37 (x := (1 : Int32)) rfl rfl (s_add (pc := 38) rw_77_38 (A := (M.2.1 1 1).toInt) (B := 1) rfl rfl (by omega) (fun v11 e12 => s_pI (pc := 39) rw_77_39 hG6 rfl (fun M14 W13 => ?_))))
  have hG15 := g_w hG6 W13 (A := v11.toInt) rfl (lo := 0) (hi := 500) rfl rfl (by omega) (by decide)
  have F16 := FR.w F7 W13 (show 1 = 1 ∧ 1 = 1 ∨ 1 = 2 by decide)
  refine s_inc (pc := 42) rw_77_42 (ls2 := fun v => [.ref 1, .int x, .int v]) rfl rfl (fun _ => rfl) (A := 24) (B := -8) rfl rfl (by omega) (fun v17 e18 => to_go (pc := 45) rw_77_45 (to_in (pc := 3) rw_77_3 rfl (b_ilt_f (pc := 4) rw_77_4 (A := v17.toInt) rfl (by omega) (to_an (pc := 7) rw_77_7 rfl ?_))))
  have c_19 : M14.2.1 1 1 = v11 := (W_e W13)
  refine tt_gI (pc := 8) rw_77_8 (g_o hG15 rfl) (v := v11) c_19 (to_an (pc := 11) rw_77_11 rfl (s_gR (pc := 12) rw_77_12 hG15 rfl (v := 2) rfl (s_len (pc := 15) rw_77_15 hG15 rfl rfl (n := 500) rfl (v := (500 : Int32)) rfl (b_cge_f (pc := 16) rw_77_16 (A := v11.toInt) (B := 500) rfl rfl (by omega) (to_an (pc := 19) rw_77_19 rfl (s_gR (pc := 20) rw_77_20 hG15 rfl (v := 2) rfl (to_an (pc := 23) rw_77_23 rfl (tt_gI (pc := 24) rw_77_24 (g_o hG15 rfl) (v := v11) c_19 (to_in (pc := 27) rw_77_27 rfl (to_in (pc := 28) rw_77_28 rfl (s_opE (pc := 29) rw_77_29 (w := x >>> v17) rfl (fun v20 e21 => ?_))))))))))))
  refine to_i2b (pc := 30) rw_77_30 (v := (v20.toInt8.toInt32)) rfl (s_basE (pc := 31) rw_77_31 hG15 rfl (n := 500) rfl (A := v11.toInt) rfl (by omega) (by omega) (fun M23 W22 => ?_))
  have hG24 := g_wf hG15 W22 rfl rfl (by decide)
  have F25 := FR.w F16 W22 (show 2 = 1 ∧ (v11.toInt).toNat = 1 ∨ 2 = 2 by omega)
  have z_26 := x_by_b (x := x) (v := v17) (j := 1) (by omega) e21
  refine to_an (pc := 32) rw_77_32 rfl (to_dupr (pc := 33) rw_77_33 ?_)
  have c_27 : M23.2.1 1 1 = v11 := (W_n W22 (fun z => absurd z.1 (by decide)) c_19)
  refine tt_gI (pc := 34) rw_77_34 (g_o hG24 rfl) (v := v11) c_27 (to_c (pc := 37) rw_77_37 (x := (1 : Int32)) rfl rfl (s_add (pc := 38) rw_77_38 (A := v11.toInt) (B := 1) rfl rfl (by omega) (fun v28 e29 => s_pI (pc := 39) rw_77_39 hG24 rfl (fun M31 W30 => ?_))))
  have hG32 := g_w hG24 W30 (A := v28.toInt) rfl (lo := 0) (hi := 500) rfl rfl (by omega) (by decide)
  have F33 := FR.w F25 W30 (show 1 = 1 ∧ 1 = 1 ∨ 1 = 2 by decide)
  refine s_inc (pc := 42) rw_77_42 (ls2 := fun v => [.ref 1, .int x, .int v]) rfl rfl (fun _ => rfl) (A := v17.toInt) (B := -8) rfl rfl (by omega) (fun v34 e35 => to_go (pc := 45) rw_77_45 (to_in (pc := 3) rw_77_3 rfl (b_ilt_f (pc := 4) rw_77_4 (A := v34.toInt) rfl (by omega) (to_an (pc := 7) rw_77_7 rfl ?_))))
  have c_36 : M31.2.1 1 1 = v28 := (W_e W30)
  refine tt_gI (pc := 8) rw_77_8 (g_o hG32 rfl) (v := v28) c_36 (to_an (pc := 11) rw_77_11 rfl (s_gR (pc := 12) rw_77_12 hG32 rfl (v := 2) rfl (s_len (pc := 15) rw_77_15 hG32 rfl rfl (n := 500) rfl (v := (500 : Int32)) rfl (b_cge_f (pc := 16) rw_77_16 (A := v28.toInt) (B := 500) rfl rfl (by omega) (to_an (pc := 19) rw_77_19 rfl (s_gR (pc := 20) rw_77_20 hG32 rfl (v := 2) rfl (to_an (pc := 23) rw_77_23 rfl (tt_gI (pc := 24) rw_77_24 (g_o hG32 rfl) (v := v28) c_36 (to_in (pc := 27) rw_77_27 rfl (to_in (pc := 28) rw_77_28 rfl (s_opE (pc := 29) rw_77_29 (w := x >>> v34) rfl (fun v37 e38 => ?_))))))))))))
  refine to_i2b (pc := 30) rw_77_30 (v := (v37.toInt8.toInt32)) rfl (s_basE (pc := 31) rw_77_31 hG32 rfl (n := 500) rfl (A := v28.toInt) rfl (by omega) (by omega) (fun M40 W39 => ?_))
  have hG41 := g_wf hG32 W39 rfl rfl (by decide)
  have F42 := FR.w F33 W39 (show 2 = 1 ∧ (v28.toInt).toNat = 1 ∨ 2 = 2 by omega)
  have z_43 := x_by_b (x := x) (v := v34) (j := 2) (by omega) e38
  refine to_an (pc := 32) rw_77_32 rfl (to_dupr (pc := 33) rw_77_33 ?_)
  have c_44 : M40.2.1 1 1 = v28 := (W_n W39 (fun z => absurd z.1 (by decide)) c_36)
  refine tt_gI (pc := 34) rw_77_34 (g_o hG41 rfl) (v := v28) c_44 (to_c (pc := 37) rw_77_37 (x := (1 : Int32)) rfl rfl (s_add (pc := 38) rw_77_38 (A := v28.toInt) (B := 1) rfl rfl (by omega) (fun v45 e46 => s_pI (pc := 39) rw_77_39 hG41 rfl (fun M48 W47 => ?_))))
  have hG49 := g_w hG41 W47 (A := v45.toInt) rfl (lo := 0) (hi := 500) rfl rfl (by omega) (by decide)
  have F50 := FR.w F42 W47 (show 1 = 1 ∧ 1 = 1 ∨ 1 = 2 by decide)
  refine s_inc (pc := 42) rw_77_42 (ls2 := fun v => [.ref 1, .int x, .int v]) rfl rfl (fun _ => rfl) (A := v34.toInt) (B := -8) rfl rfl (by omega) (fun v51 e52 => to_go (pc := 45) rw_77_45 (to_in (pc := 3) rw_77_3 rfl (b_ilt_f (pc := 4) rw_77_4 (A := v51.toInt) rfl (by omega) (to_an (pc := 7) rw_77_7 rfl ?_))))
  have c_53 : M48.2.1 1 1 = v45 := (W_e W47)
  refine tt_gI (pc := 8) rw_77_8 (g_o hG49 rfl) (v := v45) c_53 (to_an (pc := 11) rw_77_11 rfl (s_gR (pc := 12) rw_77_12 hG49 rfl (v := 2) rfl (s_len (pc := 15) rw_77_15 hG49 rfl rfl (n := 500) rfl (v := (500 : Int32)) rfl (b_cge_f (pc := 16) rw_77_16 (A := v45.toInt) (B := 500) rfl rfl (by omega) (to_an (pc := 19) rw_77_19 rfl (s_gR (pc := 20) rw_77_20 hG49 rfl (v := 2) rfl (to_an (pc := 23) rw_77_23 rfl (tt_gI (pc := 24) rw_77_24 (g_o hG49 rfl) (v := v45) c_53 (to_in (pc := 27) rw_77_27 rfl (to_in (pc := 28) rw_77_28 rfl (s_opE (pc := 29) rw_77_29 (w := x >>> v51) rfl (fun v54 e55 => ?_))))))))))))
  refine to_i2b (pc := 30) rw_77_30 (v := (v54.toInt8.toInt32)) rfl (s_basE (pc := 31) rw_77_31 hG49 rfl (n := 500) rfl (A := v45.toInt) rfl (by omega) (by omega) (fun M57 W56 => ?_))
  have hG58 := g_wf hG49 W56 rfl rfl (by decide)
  have F59 := FR.w F50 W56 (show 2 = 1 ∧ (v45.toInt).toNat = 1 ∨ 2 = 2 by omega)
  have z_60 := x_by_b (x := x) (v := v51) (j := 3) (by omega) e55
  refine to_an (pc := 32) rw_77_32 rfl (to_dupr (pc := 33) rw_77_33 ?_)
  have c_61 : M57.2.1 1 1 = v45 := (W_n W56 (fun z => absurd z.1 (by decide)) c_53)
  refine tt_gI (pc := 34) rw_77_34 (g_o hG58 rfl) (v := v45) c_61 (to_c (pc := 37) rw_77_37 (x := (1 : Int32)) rfl rfl (s_add (pc := 38) rw_77_38 (A := v45.toInt) (B := 1) rfl rfl (by omega) (fun v62 e63 => s_pI (pc := 39) rw_77_39 hG58 rfl (fun M65 W64 => ?_))))
  have hG66 := g_w hG58 W64 (A := v62.toInt) rfl (lo := 0) (hi := 500) rfl rfl (by omega) (by decide)
  have F67 := FR.w F59 W64 (show 1 = 1 ∧ 1 = 1 ∨ 1 = 2 by decide)
  refine s_inc (pc := 42) rw_77_42 (ls2 := fun v => [.ref 1, .int x, .int v]) rfl rfl (fun _ => rfl) (A := v51.toInt) (B := -8) rfl rfl (by omega) (fun v68 e69 => to_go (pc := 45) rw_77_45 (to_in (pc := 3) rw_77_3 rfl (b_ilt_t (pc := 4) rw_77_4 (A := v68.toInt) rfl (by omega) (to_rv (pc := 48) rw_77_48 ?_))))
  have c_70 : M65.2.1 1 1 = v62 := (W_e W64)
  have t_71 : (M65.2.1 1 1).toInt = v62.toInt := congrArg Int32.toInt c_70
  have z_72 : M65.2.1 2 ((M.2.1 1 1).toInt.toNat + 0) &&& 255 = x_by x 0 := by rw [show (M.2.1 1 1).toInt.toNat + 0 = ((M.2.1 1 1).toInt).toNat by omega, show M65.2.1 2 ((M.2.1 1 1).toInt).toNat = _ from (W_n W64 (by omega) (W_n W56 (by omega) (W_n W47 (by omega) (W_n W39 (by omega) (W_n W30 (by omega) (W_n W22 (by omega) (W_n W13 (by omega) (W_e W4))))))))]; exact z_9
  have z_73 : M65.2.1 2 ((M.2.1 1 1).toInt.toNat + 1) &&& 255 = x_by x 1 := by rw [show (M.2.1 1 1).toInt.toNat + 1 = (v11.toInt).toNat by omega, show M65.2.1 2 (v11.toInt).toNat = _ from (W_n W64 (by omega) (W_n W56 (by omega) (W_n W47 (by omega) (W_n W39 (by omega) (W_n W30 (by omega) (W_e W22))))))]; exact z_26
  have z_74 : M65.2.1 2 ((M.2.1 1 1).toInt.toNat + 2) &&& 255 = x_by x 2 := by rw [show (M.2.1 1 1).toInt.toNat + 2 = (v28.toInt).toNat by omega, show M65.2.1 2 (v28.toInt).toNat = _ from (W_n W64 (by omega) (W_n W56 (by omega) (W_n W47 (by omega) (W_e W39))))]; exact z_43
  have z_75 : M65.2.1 2 ((M.2.1 1 1).toInt.toNat + 3) &&& 255 = x_by x 3 := by rw [show (M.2.1 1 1).toInt.toNat + 3 = (v45.toInt).toNat by omega, show M65.2.1 2 (v45.toInt).toNat = _ from (W_n W64 (by omega) (W_e W56))]; exact z_60
  exact h M65 hG66 F67 (by omega) ⟨by omega, fun k hk => (W_n W64 (by omega) (W_n W56 (by omega) (W_n W47 (by omega) (W_n W39 (by omega) (W_n W30 (by omega) (W_n W22 (by omega) (W_n W13 (by omega) (W_n W4 (by omega) rfl)))))))), fun j hj => by rcases (show j = 0 ∨ j = 1 ∨ j = 2 ∨ j = 3 by omega) with rfl | rfl | rfl | rfl; exact z_72; exact z_73; exact z_74; exact z_75⟩
set_option maxRecDepth 4000 in
set_option maxHeartbeats 0 in
theorem E_110 {X : mm_X} {d : Nat} {M : mm_M} {Q : Option Value → mm_M → Prop} {a : Int32} {b : Int32} {c : Int32} {x : Int32} {e : Int32} (hX : g_X X) (hd : 1 ≤ d) (hG : g_G M) (h : ∀ (r : Int32) (M1 : mm_M), g_G M1 → FR md_a M M1 → (480 < (M.2.1 1 1).toInt → r.toInt = -1 ∧ (M1.2.1 1 1).toInt = (M.2.1 1 1).toInt) → ((M.2.1 1 1).toInt ≤ 480 → r.toInt = (M.2.1 1 1).toInt + 20 ∧ (M1.2.1 1 1).toInt = (M.2.1 1 1).toInt + 20) → (FD M M1 a b c x e) → Q (some (.int r)) M1) : mm_T X d 110 0 [.ref 0, .int a, .int b, .int c, .int x, .int e] [] M Q := by
  have F0 : FR md_a M M := FR.rf
  have b_1 := g_b hG (a := 1) (i := 1) (lo := 0) (hi := 500) rfl rfl
  refine to_an (pc := 0) rw_110_0 rfl (s_gR (pc := 1) rw_110_1 hG rfl (v := 1) rfl (tt_gI (pc := 4) rw_110_4 (g_o hG rfl) (v := (M.2.1 1 1)) rfl (to_c (pc := 7) rw_110_7 (x := (480 : Int32)) rfl rfl (b_cle (pc := 10) rw_110_10 (A := (M.2.1 1 1).toInt) (B := 480) rfl rfl (fun h2 => ?_) (fun h2 => ?_)))))
  · refine to_an (pc := 15) rw_110_15 rfl (s_gR (pc := 16) rw_110_16 hG rfl (v := 1) rfl (to_in (pc := 19) rw_110_19 rfl (s_v (pc := 20) rw_110_20 (dp0 hd (by decide)) (ls0 := [.ref 1, .int a, .null]) rfl (Nat.le_of_ble_eq_true rfl) (Nat.le_of_ble_eq_true rfl) rfl (to_rc rfl rfl rfl (g_o hG rfl)) rfl (E_77 hX (dp1 hd (by decide)) hG (by omega) (x := a) (fun M7 hG4 F3 p_5 p_6 => ?_)))))
    have F8 := FR.c F0 F3 tg_179
    have b_9 := g_b hG4 (a := 1) (i := 1) (lo := 0) (hi := 500) rfl rfl
    refine to_an (pc := 23) rw_110_23 rfl (s_gR (pc := 24) rw_110_24 hG4 rfl (v := 1) rfl (to_in (pc := 27) rw_110_27 rfl (s_v (pc := 28) rw_110_28 (dp0 hd (by decide)) (ls0 := [.ref 1, .int b, .null]) rfl (Nat.le_of_ble_eq_true rfl) (Nat.le_of_ble_eq_true rfl) rfl (to_rc rfl rfl rfl (g_o hG4 rfl)) rfl (E_77 hX (dp1 hd (by decide)) hG4 (by omega) (x := b) (fun M14 hG11 F10 p_12 p_13 => ?_)))))
    have F15 := FR.c F8 F10 tg_179
    have b_16 := g_b hG11 (a := 1) (i := 1) (lo := 0) (hi := 500) rfl rfl
    refine to_an (pc := 31) rw_110_31 rfl (s_gR (pc := 32) rw_110_32 hG11 rfl (v := 1) rfl (to_in (pc := 35) rw_110_35 rfl (s_v (pc := 36) rw_110_36 (dp0 hd (by decide)) (ls0 := [.ref 1, .int c, .null]) rfl (Nat.le_of_ble_eq_true rfl) (Nat.le_of_ble_eq_true rfl) rfl (to_rc rfl rfl rfl (g_o hG11 rfl)) rfl (E_77 hX (dp1 hd (by decide)) hG11 (by omega) (x := c) (fun M21 hG18 F17 p_19 p_20 => ?_)))))
    have F22 := FR.c F15 F17 tg_179
    have b_23 := g_b hG18 (a := 1) (i := 1) (lo := 0) (hi := 500) rfl rfl
    refine to_an (pc := 39) rw_110_39 rfl (s_gR (pc := 40) rw_110_40 hG18 rfl (v := 1) rfl (to_i (pc := 43) rw_110_43 rfl (s_v (pc := 45) rw_110_45 (dp0 hd (by decide)) (ls0 := [.ref 1, .int x, .null]) rfl (Nat.le_of_ble_eq_true rfl) (Nat.le_of_ble_eq_true rfl) rfl (to_rc rfl rfl rfl (g_o hG18 rfl)) rfl (E_77 hX (dp1 hd (by decide)) hG18 (by omega) (x := x) (fun M28 hG25 F24 p_26 p_27 => ?_)))))
    have F29 := FR.c F22 F24 tg_179
    have b_30 := g_b hG25 (a := 1) (i := 1) (lo := 0) (hi := 500) rfl rfl
    refine to_an (pc := 48) rw_110_48 rfl (s_gR (pc := 49) rw_110_49 hG25 rfl (v := 1) rfl (to_i (pc := 52) rw_110_52 rfl (s_v (pc := 54) rw_110_54 (dp0 hd (by decide)) (ls0 := [.ref 1, .int e, .null]) rfl (Nat.le_of_ble_eq_true rfl) (Nat.le_of_ble_eq_true rfl) rfl (to_rc rfl rfl rfl (g_o hG25 rfl)) rfl (E_77 hX (dp1 hd (by decide)) hG25 (by omega) (x := e) (fun M35 hG32 F31 p_33 p_34 => ?_)))))
    have F36 := FR.c F29 F31 tg_179
    have b_37 := g_b hG32 (a := 1) (i := 1) (lo := 0) (hi := 500) rfl rfl
    refine to_an (pc := 57) rw_110_57 rfl (s_gR (pc := 58) rw_110_58 hG32 rfl (v := 1) rfl (tt_gI (pc := 61) rw_110_61 (g_o hG32 rfl) (v := (M35.2.1 1 1)) rfl (to_r0 (pc := 64) rw_110_64 ?_)))
    exact h (M35.2.1 1 1) M35 hG32 F36 (by omega) (by omega) (FD_5 (by omega) p_6 p_13 p_20 p_27 p_34)
  · refine to_c (pc := 13) rw_110_13 (x := (-1 : Int32)) rfl rfl (to_r0 (pc := 14) rw_110_14 ?_)
    have k_38 : (-1 : Int32).toInt = -1 := rfl
    exact h (-1 : Int32) M hG F0 (by omega) (by omega) (FD_0 (by omega))
set_option maxRecDepth 4000 in
set_option maxHeartbeats 0 in
theorem U_148_0 {X : mm_X} {d : Nat} {M : mm_M} {Q : Option Value → mm_M → Prop} {a : Int32} {b : Int32} {c : Int32} {x : Int32} {e : Int32} (hX : g_X X) (hd : 0 ≤ d) (h : ∀ (r : Int32) (M1 : mm_M), g_G M1 → FR md_fe M M1 → (480 < (M.2.1 77 1).toInt → r.toInt = -1 ∧ (M1.2.1 77 1).toInt = (M.2.1 77 1).toInt) → ((M.2.1 77 1).toInt ≤ 480 → r.toInt = (M.2.1 77 1).toInt + 20 ∧ (M1.2.1 77 1).toInt = (M.2.1 77 1).toInt + 20) → (FDr M M1 a b c x e) → Q (some (.int r)) M1) : ∀ nn9 : Nat, (∀ (N : mm_M) (x6 : Int32) (u7 : Value), g_G N → FR md_fe M N → (0 ≤ x6.toInt) → (x6.toInt ≤ 20) → ((N.2.1 77 1).toInt = (M.2.1 77 1).toInt) → ((N.2.1 77 1).toInt ≤ 480) → (0 ≤ (N.2.1 77 1).toInt) → (∀ j : Nat, (j : Int) < x6.toInt → N.2.1 78 ((M.2.1 77 1).toInt.toNat + j) = x_fb a b c x e j) → (∀ j : Nat, (j : Int) < (M.2.1 77 1).toInt → N.2.1 78 j = M.2.1 78 j) → 20 - x6.toInt < (nn9 : Int) → mm_T X d 147 23 [.ref 77, .int a, .int b, .int c, .int x, .int e, .int x6, u7] [] N Q) := by
  intro nn9
  induction nn9 with
  | zero =>
    intro N x6 u7 hG F0 g1 g2 g3 g4 g5 g6 g7 hm
    have b_1 := g_b hG (a := 77) (i := 1) (lo := 0) (hi := 500) rfl rfl
    exfalso; omega
  | succ nn9 ih =>
    intro N x6 u7 hG F0 g1 g2 g3 g4 g5 g6 g7 hm
    have b_2 := g_b hG (a := 77) (i := 1) (lo := 0) (hi := 500) rfl rfl
    refine to_i (pc := 23) rw_148_23 rfl (to_c (pc := 25) rw_148_25 (x := (20 : Int32)) rfl rfl (b_cge (pc := 27) rw_148_27 (A := x6.toInt) (B := 20) rfl rfl (fun h3 => ?_) (fun h3 => ?_)))
    · refine to_an (pc := 113) rw_148_113 rfl (to_dupr (pc := 114) rw_148_114 (tt_gI (pc := 115) rw_148_115 (g_o hG rfl) (v := (N.2.1 77 1)) rfl (to_c (pc := 118) rw_148_118 (x := (20 : Int32)) rfl rfl (s_add (pc := 120) rw_148_120 (A := (N.2.1 77 1).toInt) (B := 20) rfl rfl (by omega) (fun v4 e5 => s_pI (pc := 121) rw_148_121 hG rfl (fun M7 W6 => ?_))))))
      have hG8 := g_w hG W6 (A := v4.toInt) rfl (lo := 0) (hi := 500) rfl rfl (by omega) (by decide)
      have F9 := FR.w F0 W6 (show 77 = 77 ∧ (1 = 1 ∨ 1 = 2) ∨ 77 = 78 by decide)
      refine to_an (pc := 124) rw_148_124 rfl ?_
      have c_10 : M7.2.1 77 1 = v4 := (W_e W6)
      refine tt_gI (pc := 125) rw_148_125 (g_o hG8 rfl) (v := v4) c_10 (to_r0 (pc := 128) rw_148_128 ?_)
      have t_11 : (M7.2.1 77 1).toInt = v4.toInt := congrArg Int32.toInt c_10
      exact h v4 M7 hG8 F9 (by omega) (by omega) ⟨fun k hk => (show M7.2.1 78 k = N.2.1 78 k from (W_n W6 (by omega) rfl)).trans (g7 k hk), fun _ k hk => (show M7.2.1 78 ((M.2.1 77 1).toInt.toNat + k) = N.2.1 78 ((M.2.1 77 1).toInt.toNat + k) from (W_n W6 (by omega) rfl)).trans (g6 k (by omega))⟩
    · refine to_i (pc := 30) rw_148_30 rfl (to_c (pc := 32) rw_148_32 (x := (4 : Int32)) rfl rfl (b_cge (pc := 33) rw_148_33 (A := x6.toInt) (B := 4) rfl rfl (fun h12 => ?_) (fun h12 => ?_)))
      · refine to_i (pc := 40) rw_148_40 rfl (to_c (pc := 42) rw_148_42 (x := (8 : Int32)) rfl rfl (b_cge (pc := 44) rw_148_44 (A := x6.toInt) (B := 8) rfl rfl (fun h13 => ?_) (fun h13 => ?_)))
        · refine to_i (pc := 51) rw_148_51 rfl (to_c (pc := 53) rw_148_53 (x := (12 : Int32)) rfl rfl (b_cge (pc := 55) rw_148_55 (A := x6.toInt) (B := 12) rfl rfl (fun h14 => ?_) (fun h14 => ?_)))
          · refine to_i (pc := 62) rw_148_62 rfl (to_c (pc := 64) rw_148_64 (x := (16 : Int32)) rfl rfl (b_cge (pc := 66) rw_148_66 (A := x6.toInt) (B := 16) rfl rfl (fun h15 => ?_) (fun h15 => ?_)))
            · refine to_i (pc := 74) rw_148_74 rfl (to_is (pc := 76) rw_148_76 (ls2 := [.ref 77, .int a, .int b, .int c, .int x, .int e, .int x6, .int e]) rfl rfl (to_an (pc := 78) rw_148_78 rfl (s_gR (pc := 79) rw_148_79 hG rfl (v := 78) rfl (to_an (pc := 82) rw_148_82 rfl (tt_gI (pc := 83) rw_148_83 (g_o hG rfl) (v := (N.2.1 77 1)) rfl (to_i (pc := 86) rw_148_86 rfl (s_add (pc := 88) rw_148_88 (A := (N.2.1 77 1).toInt) (B := x6.toInt) rfl rfl (by omega) (fun v16 e17 => to_i (pc := 89) rw_148_89 rfl (to_c (pc := 91) rw_148_91 (x := (24 : Int32)) rfl rfl (to_c (pc := 93) rw_148_93 (x := (8 : Int32)) rfl rfl (to_i (pc := 95) rw_148_95 rfl ?_)))))))))))
              refine to_c (pc := 97) rw_148_97 (x := (4 : Int32)) rfl rfl (s_irem (pc := 98) rw_148_98 (A := x6.toInt) (B := 4) rfl rfl (by omega) (by omega) (fun v18 e19 _ => s_mul (pc := 99) rw_148_99 (A := 8) (B := v18.toInt) rfl rfl (by omega) (fun v20 e21 => s_sub (pc := 100) rw_148_100 (A := 24) (B := v20.toInt) rfl rfl (by omega) (fun v22 e23 => s_opE (pc := 101) rw_148_101 (w := e >>> v22) rfl (fun v24 e25 => to_c (pc := 102) rw_148_102 (x := (255 : Int32)) rfl rfl (s_and (pc := 105) rw_148_105 (B := 255) rfl (by omega) (fun v26 e27 _ _ => s_ias (pc := 106) rw_148_106 hG rfl (n := 500) rfl (A := v16.toInt) rfl (by omega) (by omega) (fun M29 W28 => ?_))))))))
              have hG30 := g_w hG W28 (A := v26.toInt) rfl (lo := 0) (hi := 255) rfl rfl (by omega) (by decide)
              have F31 := FR.w F0 W28 (show 78 = 77 ∧ ((v16.toInt).toNat = 1 ∨ (v16.toInt).toNat = 2) ∨ 78 = 78 by omega)
              refine s_inc (pc := 107) rw_148_107 (ls2 := fun v => [.ref 77, .int a, .int b, .int c, .int x, .int e, .int v, .int e]) rfl rfl (fun _ => rfl) (A := x6.toInt) (B := 1) rfl rfl (by omega) (fun v32 e33 => to_go (pc := 110) rw_148_110 ?_)
              have c_34 : M29.2.1 77 1 = (N.2.1 77 1) := (W_n W28 (fun z => absurd z.1 (by decide)) rfl)
              have t_35 : (M29.2.1 77 1).toInt = (N.2.1 77 1).toInt := congrArg Int32.toInt c_34
              have z_36 : v26 = x_fb a b c x e (x6.toInt).toNat := x_fb_i (w := e) (v := v22) (k := x6.toInt) (by omega) (by omega) e25 e27 (x_w_e (by omega))
              exact ih M29 v32 (.int e) hG30 F31 (by omega) (by omega) (by omega) (by omega) (by omega) (fun j hj => by by_cases g9 : (j : Int) < x6.toInt; exact (W_n W28 (by omega) (g6 j g9)); have e9 : j = (x6.toInt).toNat := (by omega); rw [e9, show (M.2.1 77 1).toInt.toNat + (x6.toInt).toNat = (v16.toInt).toNat by omega, show M29.2.1 78 (v16.toInt).toNat = _ from W_e W28]; exact z_36) (fun j hj => W_n W28 (by omega) (g7 j hj)) (by omega)
            · refine to_i (pc := 69) rw_148_69 rfl (to_go (pc := 71) rw_148_71 (to_is (pc := 76) rw_148_76 (ls2 := [.ref 77, .int a, .int b, .int c, .int x, .int e, .int x6, .int x]) rfl rfl (to_an (pc := 78) rw_148_78 rfl (s_gR (pc := 79) rw_148_79 hG rfl (v := 78) rfl (to_an (pc := 82) rw_148_82 rfl (tt_gI (pc := 83) rw_148_83 (g_o hG rfl) (v := (N.2.1 77 1)) rfl (to_i (pc := 86) rw_148_86 rfl (s_add (pc := 88) rw_148_88 (A := (N.2.1 77 1).toInt) (B := x6.toInt) rfl rfl (by omega) (fun v37 e38 => to_i (pc := 89) rw_148_89 rfl (to_c (pc := 91) rw_148_91 (x := (24 : Int32)) rfl rfl (to_c (pc := 93) rw_148_93 (x := (8 : Int32)) rfl rfl ?_)))))))))))
              refine to_i (pc := 95) rw_148_95 rfl (to_c (pc := 97) rw_148_97 (x := (4 : Int32)) rfl rfl (s_irem (pc := 98) rw_148_98 (A := x6.toInt) (B := 4) rfl rfl (by omega) (by omega) (fun v39 e40 _ => s_mul (pc := 99) rw_148_99 (A := 8) (B := v39.toInt) rfl rfl (by omega) (fun v41 e42 => s_sub (pc := 100) rw_148_100 (A := 24) (B := v41.toInt) rfl rfl (by omega) (fun v43 e44 => s_opE (pc := 101) rw_148_101 (w := x >>> v43) rfl (fun v45 e46 => to_c (pc := 102) rw_148_102 (x := (255 : Int32)) rfl rfl (s_and (pc := 105) rw_148_105 (B := 255) rfl (by omega) (fun v47 e48 _ _ => s_ias (pc := 106) rw_148_106 hG rfl (n := 500) rfl (A := v37.toInt) rfl (by omega) (by omega) (fun M50 W49 => ?_)))))))))
              have hG51 := g_w hG W49 (A := v47.toInt) rfl (lo := 0) (hi := 255) rfl rfl (by omega) (by decide)
              have F52 := FR.w F0 W49 (show 78 = 77 ∧ ((v37.toInt).toNat = 1 ∨ (v37.toInt).toNat = 2) ∨ 78 = 78 by omega)
              refine s_inc (pc := 107) rw_148_107 (ls2 := fun v => [.ref 77, .int a, .int b, .int c, .int x, .int e, .int v, .int x]) rfl rfl (fun _ => rfl) (A := x6.toInt) (B := 1) rfl rfl (by omega) (fun v53 e54 => to_go (pc := 110) rw_148_110 ?_)
              have c_55 : M50.2.1 77 1 = (N.2.1 77 1) := (W_n W49 (fun z => absurd z.1 (by decide)) rfl)
              have t_56 : (M50.2.1 77 1).toInt = (N.2.1 77 1).toInt := congrArg Int32.toInt c_55
              have z_57 : v47 = x_fb a b c x e (x6.toInt).toNat := x_fb_i (w := x) (v := v43) (k := x6.toInt) (by omega) (by omega) e46 e48 (x_w_d (by omega) (by omega))
              exact ih M50 v53 (.int x) hG51 F52 (by omega) (by omega) (by omega) (by omega) (by omega) (fun j hj => by by_cases g9 : (j : Int) < x6.toInt; exact (W_n W49 (by omega) (g6 j g9)); have e9 : j = (x6.toInt).toNat := (by omega); rw [e9, show (M.2.1 77 1).toInt.toNat + (x6.toInt).toNat = (v37.toInt).toNat by omega, show M50.2.1 78 (v37.toInt).toNat = _ from W_e W49]; exact z_57) (fun j hj => W_n W49 (by omega) (g7 j hj)) (by omega)
          · refine to_in (pc := 58) rw_148_58 rfl (to_go (pc := 59) rw_148_59 (to_is (pc := 76) rw_148_76 (ls2 := [.ref 77, .int a, .int b, .int c, .int x, .int e, .int x6, .int c]) rfl rfl (to_an (pc := 78) rw_148_78 rfl (s_gR (pc := 79) rw_148_79 hG rfl (v := 78) rfl (to_an (pc := 82) rw_148_82 rfl (tt_gI (pc := 83) rw_148_83 (g_o hG rfl) (v := (N.2.1 77 1)) rfl (to_i (pc := 86) rw_148_86 rfl (s_add (pc := 88) rw_148_88 (A := (N.2.1 77 1).toInt) (B := x6.toInt) rfl rfl (by omega) (fun v58 e59 => to_i (pc := 89) rw_148_89 rfl (to_c (pc := 91) rw_148_91 (x := (24 : Int32)) rfl rfl (to_c (pc := 93) rw_148_93 (x := (8 : Int32)) rfl rfl ?_)))))))))))
            refine to_i (pc := 95) rw_148_95 rfl (to_c (pc := 97) rw_148_97 (x := (4 : Int32)) rfl rfl (s_irem (pc := 98) rw_148_98 (A := x6.toInt) (B := 4) rfl rfl (by omega) (by omega) (fun v60 e61 _ => s_mul (pc := 99) rw_148_99 (A := 8) (B := v60.toInt) rfl rfl (by omega) (fun v62 e63 => s_sub (pc := 100) rw_148_100 (A := 24) (B := v62.toInt) rfl rfl (by omega) (fun v64 e65 => s_opE (pc := 101) rw_148_101 (w := c >>> v64) rfl (fun v66 e67 => to_c (pc := 102) rw_148_102 (x := (255 : Int32)) rfl rfl (s_and (pc := 105) rw_148_105 (B := 255) rfl (by omega) (fun v68 e69 _ _ => s_ias (pc := 106) rw_148_106 hG rfl (n := 500) rfl (A := v58.toInt) rfl (by omega) (by omega) (fun M71 W70 => ?_)))))))))
            have hG72 := g_w hG W70 (A := v68.toInt) rfl (lo := 0) (hi := 255) rfl rfl (by omega) (by decide)
            have F73 := FR.w F0 W70 (show 78 = 77 ∧ ((v58.toInt).toNat = 1 ∨ (v58.toInt).toNat = 2) ∨ 78 = 78 by omega)
            refine s_inc (pc := 107) rw_148_107 (ls2 := fun v => [.ref 77, .int a, .int b, .int c, .int x, .int e, .int v, .int c]) rfl rfl (fun _ => rfl) (A := x6.toInt) (B := 1) rfl rfl (by omega) (fun v74 e75 => to_go (pc := 110) rw_148_110 ?_)
            have c_76 : M71.2.1 77 1 = (N.2.1 77 1) := (W_n W70 (fun z => absurd z.1 (by decide)) rfl)
            have t_77 : (M71.2.1 77 1).toInt = (N.2.1 77 1).toInt := congrArg Int32.toInt c_76
            have z_78 : v68 = x_fb a b c x e (x6.toInt).toNat := x_fb_i (w := c) (v := v64) (k := x6.toInt) (by omega) (by omega) e67 e69 (x_w_c (by omega) (by omega))
            exact ih M71 v74 (.int c) hG72 F73 (by omega) (by omega) (by omega) (by omega) (by omega) (fun j hj => by by_cases g9 : (j : Int) < x6.toInt; exact (W_n W70 (by omega) (g6 j g9)); have e9 : j = (x6.toInt).toNat := (by omega); rw [e9, show (M.2.1 77 1).toInt.toNat + (x6.toInt).toNat = (v58.toInt).toNat by omega, show M71.2.1 78 (v58.toInt).toNat = _ from W_e W70]; exact z_78) (fun j hj => W_n W70 (by omega) (g7 j hj)) (by omega)
        · refine to_in (pc := 47) rw_148_47 rfl (to_go (pc := 48) rw_148_48 (to_is (pc := 76) rw_148_76 (ls2 := [.ref 77, .int a, .int b, .int c, .int x, .int e, .int x6, .int b]) rfl rfl (to_an (pc := 78) rw_148_78 rfl (s_gR (pc := 79) rw_148_79 hG rfl (v := 78) rfl (to_an (pc := 82) rw_148_82 rfl (tt_gI (pc := 83) rw_148_83 (g_o hG rfl) (v := (N.2.1 77 1)) rfl (to_i (pc := 86) rw_148_86 rfl (s_add (pc := 88) rw_148_88 (A := (N.2.1 77 1).toInt) (B := x6.toInt) rfl rfl (by omega) (fun v79 e80 => to_i (pc := 89) rw_148_89 rfl (to_c (pc := 91) rw_148_91 (x := (24 : Int32)) rfl rfl (to_c (pc := 93) rw_148_93 (x := (8 : Int32)) rfl rfl ?_)))))))))))
          refine to_i (pc := 95) rw_148_95 rfl (to_c (pc := 97) rw_148_97 (x := (4 : Int32)) rfl rfl (s_irem (pc := 98) rw_148_98 (A := x6.toInt) (B := 4) rfl rfl (by omega) (by omega) (fun v81 e82 _ => s_mul (pc := 99) rw_148_99 (A := 8) (B := v81.toInt) rfl rfl (by omega) (fun v83 e84 => s_sub (pc := 100) rw_148_100 (A := 24) (B := v83.toInt) rfl rfl (by omega) (fun v85 e86 => s_opE (pc := 101) rw_148_101 (w := b >>> v85) rfl (fun v87 e88 => to_c (pc := 102) rw_148_102 (x := (255 : Int32)) rfl rfl (s_and (pc := 105) rw_148_105 (B := 255) rfl (by omega) (fun v89 e90 _ _ => s_ias (pc := 106) rw_148_106 hG rfl (n := 500) rfl (A := v79.toInt) rfl (by omega) (by omega) (fun M92 W91 => ?_)))))))))
          have hG93 := g_w hG W91 (A := v89.toInt) rfl (lo := 0) (hi := 255) rfl rfl (by omega) (by decide)
          have F94 := FR.w F0 W91 (show 78 = 77 ∧ ((v79.toInt).toNat = 1 ∨ (v79.toInt).toNat = 2) ∨ 78 = 78 by omega)
          refine s_inc (pc := 107) rw_148_107 (ls2 := fun v => [.ref 77, .int a, .int b, .int c, .int x, .int e, .int v, .int b]) rfl rfl (fun _ => rfl) (A := x6.toInt) (B := 1) rfl rfl (by omega) (fun v95 e96 => to_go (pc := 110) rw_148_110 ?_)
          have c_97 : M92.2.1 77 1 = (N.2.1 77 1) := (W_n W91 (fun z => absurd z.1 (by decide)) rfl)
          have t_98 : (M92.2.1 77 1).toInt = (N.2.1 77 1).toInt := congrArg Int32.toInt c_97
          have z_99 : v89 = x_fb a b c x e (x6.toInt).toNat := x_fb_i (w := b) (v := v85) (k := x6.toInt) (by omega) (by omega) e88 e90 (x_w_b (by omega) (by omega))
          exact ih M92 v95 (.int b) hG93 F94 (by omega) (by omega) (by omega) (by omega) (by omega) (fun j hj => by by_cases g9 : (j : Int) < x6.toInt; exact (W_n W91 (by omega) (g6 j g9)); have e9 : j = (x6.toInt).toNat := (by omega); rw [e9, show (M.2.1 77 1).toInt.toNat + (x6.toInt).toNat = (v79.toInt).toNat by omega, show M92.2.1 78 (v79.toInt).toNat = _ from W_e W91]; exact z_99) (fun j hj => W_n W91 (by omega) (g7 j hj)) (by omega)
      · refine to_in (pc := 36) rw_148_36 rfl (to_go (pc := 37) rw_148_37 (to_is (pc := 76) rw_148_76 (ls2 := [.ref 77, .int a, .int b, .int c, .int x, .int e, .int x6, .int a]) rfl rfl (to_an (pc := 78) rw_148_78 rfl (s_gR (pc := 79) rw_148_79 hG rfl (v := 78) rfl (to_an (pc := 82) rw_148_82 rfl (tt_gI (pc := 83) rw_148_83 (g_o hG rfl) (v := (N.2.1 77 1)) rfl (to_i (pc := 86) rw_148_86 rfl (s_add (pc := 88) rw_148_88 (A := (N.2.1 77 1).toInt) (B := x6.toInt) rfl rfl (by omega) (fun v100 e101 => to_i (pc := 89) rw_148_89 rfl (to_c (pc := 91) rw_148_91 (x := (24 : Int32)) rfl rfl (to_c (pc := 93) rw_148_93 (x := (8 : Int32)) rfl rfl ?_)))))))))))
        refine to_i (pc := 95) rw_148_95 rfl (to_c (pc := 97) rw_148_97 (x := (4 : Int32)) rfl rfl (s_irem (pc := 98) rw_148_98 (A := x6.toInt) (B := 4) rfl rfl (by omega) (by omega) (fun v102 e103 _ => s_mul (pc := 99) rw_148_99 (A := 8) (B := v102.toInt) rfl rfl (by omega) (fun v104 e105 => s_sub (pc := 100) rw_148_100 (A := 24) (B := v104.toInt) rfl rfl (by omega) (fun v106 e107 => s_opE (pc := 101) rw_148_101 (w := a >>> v106) rfl (fun v108 e109 => to_c (pc := 102) rw_148_102 (x := (255 : Int32)) rfl rfl (s_and (pc := 105) rw_148_105 (B := 255) rfl (by omega) (fun v110 e111 _ _ => s_ias (pc := 106) rw_148_106 hG rfl (n := 500) rfl (A := v100.toInt) rfl (by omega) (by omega) (fun M113 W112 => ?_)))))))))
        have hG114 := g_w hG W112 (A := v110.toInt) rfl (lo := 0) (hi := 255) rfl rfl (by omega) (by decide)
        have F115 := FR.w F0 W112 (show 78 = 77 ∧ ((v100.toInt).toNat = 1 ∨ (v100.toInt).toNat = 2) ∨ 78 = 78 by omega)
        refine s_inc (pc := 107) rw_148_107 (ls2 := fun v => [.ref 77, .int a, .int b, .int c, .int x, .int e, .int v, .int a]) rfl rfl (fun _ => rfl) (A := x6.toInt) (B := 1) rfl rfl (by omega) (fun v116 e117 => to_go (pc := 110) rw_148_110 ?_)
        have c_118 : M113.2.1 77 1 = (N.2.1 77 1) := (W_n W112 (fun z => absurd z.1 (by decide)) rfl)
        have t_119 : (M113.2.1 77 1).toInt = (N.2.1 77 1).toInt := congrArg Int32.toInt c_118
        have z_120 : v110 = x_fb a b c x e (x6.toInt).toNat := x_fb_i (w := a) (v := v106) (k := x6.toInt) (by omega) (by omega) e109 e111 (x_w_a (by omega) (by omega))
        exact ih M113 v116 (.int a) hG114 F115 (by omega) (by omega) (by omega) (by omega) (by omega) (fun j hj => by by_cases g9 : (j : Int) < x6.toInt; exact (W_n W112 (by omega) (g6 j g9)); have e9 : j = (x6.toInt).toNat := (by omega); rw [e9, show (M.2.1 77 1).toInt.toNat + (x6.toInt).toNat = (v100.toInt).toNat by omega, show M113.2.1 78 (v100.toInt).toNat = _ from W_e W112]; exact z_120) (fun j hj => W_n W112 (by omega) (g7 j hj)) (by omega)
set_option maxRecDepth 4000 in
set_option maxHeartbeats 0 in
theorem E_148 {X : mm_X} {d : Nat} {M : mm_M} {Q : Option Value → mm_M → Prop} {a : Int32} {b : Int32} {c : Int32} {x : Int32} {e : Int32} (hX : g_X X) (hd : 0 ≤ d) (hG : g_G M) (h : ∀ (r : Int32) (M1 : mm_M), g_G M1 → FR md_fe M M1 → (480 < (M.2.1 77 1).toInt → r.toInt = -1 ∧ (M1.2.1 77 1).toInt = (M.2.1 77 1).toInt) → ((M.2.1 77 1).toInt ≤ 480 → r.toInt = (M.2.1 77 1).toInt + 20 ∧ (M1.2.1 77 1).toInt = (M.2.1 77 1).toInt + 20) → (FDr M M1 a b c x e) → Q (some (.int r)) M1) : mm_T X d 147 0 [.ref 77, .int a, .int b, .int c, .int x, .int e, .null, .null] [] M Q := by
  have F0 : FR md_fe M M := FR.rf
  have b_121 := g_b hG (a := 77) (i := 1) (lo := 0) (hi := 500) rfl rfl
  refine to_an (pc := 0) rw_148_0 rfl (to_c (pc := 1) rw_148_1 (x := (0 : Int32)) rfl rfl (s_pI (pc := 2) rw_148_2 hG rfl (fun M123 W122 => ?_)))
  have hG124 := g_wf hG W122 rfl rfl (by decide)
  have F125 := FR.w F0 W122 (show 77 = 77 ∧ (2 = 1 ∨ 2 = 2) ∨ 77 = 78 by decide)
  refine to_an (pc := 5) rw_148_5 rfl ?_
  have c_126 : M123.2.1 77 1 = (M.2.1 77 1) := (W_n W122 (by decide) rfl)
  refine tt_gI (pc := 6) rw_148_6 (g_o hG124 rfl) (v := (M.2.1 77 1)) c_126 (to_c (pc := 9) rw_148_9 (x := (20 : Int32)) rfl rfl (s_add (pc := 11) rw_148_11 (A := (M.2.1 77 1).toInt) (B := 20) rfl rfl (by omega) (fun v127 e128 => to_c (pc := 12) rw_148_12 (x := (500 : Int32)) rfl rfl (b_cle (pc := 15) rw_148_15 (A := v127.toInt) (B := 500) rfl rfl (fun h129 => ?_) (fun h129 => ?_)))))
  · refine to_c (pc := 20) rw_148_20 (x := (0 : Int32)) rfl rfl (to_is (pc := 21) rw_148_21 (ls2 := [.ref 77, .int a, .int b, .int c, .int x, .int e, .int (0 : Int32), .null]) rfl rfl ?_)
    have k_130 : (0 : Int32).toInt = 0 := rfl
    have t_131 : (M123.2.1 77 1).toInt = (M.2.1 77 1).toInt := congrArg Int32.toInt c_126
    exact (U_148_0 (a := a) (b := b) (c := c) (x := x) (e := e) hX hd  h ((20 - (0 : Int32).toInt).toNat + 1)) M123 (0 : Int32) (.null) hG124 F125 (by omega) (by omega) (by omega) (by omega) (by omega) (fun j hj => by exfalso; rw [show (0 : Int32).toInt = 0 from rfl] at hj; omega) (fun j hj => (W_n W122 (by omega) rfl)) (by omega)
  · refine to_c (pc := 18) rw_148_18 (x := (-1 : Int32)) rfl rfl (to_r0 (pc := 19) rw_148_19 ?_)
    have k_132 : (-1 : Int32).toInt = -1 := rfl
    have t_133 : (M123.2.1 77 1).toInt = (M.2.1 77 1).toInt := congrArg Int32.toInt c_126
    exact h (-1 : Int32) M123 hG124 F125 (by omega) (by omega) (FDr_0 (by omega) (fun k => (W_n W122 (by omega) rfl)))
set_option maxRecDepth 4000 in
set_option maxHeartbeats 0 in
theorem E_111 {X : mm_X} {d : Nat} {M : mm_M} {Q : Option Value → mm_M → Prop} {n : Int32} {p : Nat} {pz : Nat} {q : Nat} {qz : Nat} {t : Nat → Int} {nn : Int} (hX : g_X X) (hd : 6 ≤ d) (hG : g_G M) (hp : p = 49 ∨ p = 58) (hpz : pz = 49 ∨ pz = 58) (hq : q = 67 ∨ q = 72) (hqz : qz = 67 ∨ qz = 72) (q1 : g_PQ M p pz q qz) (q2 : 0 ≤ n.toInt ∧ n.toInt ≤ (M.2.1 1 1).toInt → n.toInt = nn) (q3 : TT M t nn) (q4 : g_W X) (q5 : p ≠ pz) (h : ∀ (r : Int32) (M1 : mm_M), g_G M1 → FRX md_X M M1 → (n.toInt < 0 ∨ (M.2.1 1 1).toInt < n.toInt → r.toInt = -2) → ((0 ≤ n.toInt ∧ n.toInt ≤ (M.2.1 1 1).toInt → PAN (x_plan t nn 23 0 x_s0 (x_sk t nn 0)) r.toInt)) → (-2 ≤ r.toInt) → (r.toInt < 0 → (M1.2.1 0 12).toInt = (M.2.1 0 12).toInt ∧ (M1.2.1 6 0).toInt = (M.2.1 6 0).toInt ∧ (M1.2.1 17 4).toInt = (M.2.1 17 4).toInt) → (0 ≤ r.toInt → (M1.2.1 0 12).toInt = 0 ∧ (M1.2.1 6 0).toInt = 0 ∧ (M1.2.1 17 4).toInt = 0) → ((r.toInt < 0 → ∀ s9 : x_S, PLs2 M p s9 → TPl M1 s9)) → ((0 ≤ r.toInt → ∃ s2 : x_S, x_plan t nn 23 0 x_s0 (x_sk t nn 0) = some (r.toInt, s2) ∧ TPl M1 s2)) → (M1.2.2.2 0 8 ≠ M1.2.2.2 0 9) → ((r.toInt < 0 → ∀ a i : Nat, (6 ≤ a ∧ a ≤ 10 ∨ a = 0 ∧ i = 12) → M1.2.1 a i = M.2.1 a i)) → Q (some (.int r)) M1) : mm_T X d 111 0 [.ref 0, .int n, .null] [] M Q := by
  have F0 : FRX md_X M M := FRX.rf
  have b_1 := g_b hG (a := 1) (i := 1) (lo := 0) (hi := 500) rfl rfl
  refine to_an (pc := 0) rw_111_0 rfl (s_gR (pc := 1) rw_111_1 hG rfl (v := 1) rfl (to_in (pc := 4) rw_111_4 rfl (s_v (pc := 5) rw_111_5 (dp0 hd (by decide)) (ls0 := [.ref 1, .int n]) rfl (Nat.le_of_ble_eq_true rfl) (Nat.le_of_ble_eq_true rfl) rfl (to_rc rfl rfl rfl (g_o hG rfl)) rfl (E_78 hX (dp1 hd (by decide)) hG (by omega) q3 q4 (n := n) (fun r2 M10 hG4 F3 p_5 p_6 p_7 p_8 p_9 => ?_)))))
  have F11 := FRX.c F0 F3 tg_180
  have b_12 := g_b hG4 (a := 1) (i := 1) (lo := 0) (hi := 500) rfl rfl
  rcases (show r2.toInt = 0 ∨ r2.toInt = 1 by omega) with h13 | h13
  · skip
    clear p_9
    refine b_ine_f (pc := 8) rw_111_8 (A := r2.toInt) rfl (by omega) (to_c (pc := 11) rw_111_11 (x := (-2 : Int32)) rfl rfl (to_r0 (pc := 13) rw_111_13 ?_))
    have k_14 : (-2 : Int32).toInt = -2 := rfl
    have c_15 : M10.2.1 0 12 = (M.2.1 0 12) := (F_n F3 (show ¬ (0 = 1 ∨ 3 ≤ 0 ∧ 0 ≤ 5) by decide) rfl)
    have b_16 := g_b hG (a := 0) (i := 12) (lo := 0) (hi := 30) rfl rfl
    have t_17 : (M10.2.1 0 12).toInt = (M.2.1 0 12).toInt := congrArg Int32.toInt c_15
    have c_18 : M10.2.1 6 0 = (M.2.1 6 0) := (F_n F3 (show ¬ (6 = 1 ∨ 3 ≤ 6 ∧ 6 ≤ 5) by decide) rfl)
    have b_19 := g_b hG (a := 6) (i := 0) (lo := 0) (hi := 150) rfl rfl
    have t_20 : (M10.2.1 6 0).toInt = (M.2.1 6 0).toInt := congrArg Int32.toInt c_18
    have c_21 : M10.2.1 17 4 = (M.2.1 17 4) := (F_n F3 (show ¬ (17 = 1 ∨ 3 ≤ 17 ∧ 17 ≤ 5) by decide) rfl)
    have t_22 : (M10.2.1 17 4).toInt = (M.2.1 17 4).toInt := congrArg Int32.toInt c_21
    have j_23 := (PQ_f F3 q1)
    exact h (-2 : Int32) M10 hG4 F11 (by omega) (fun z => by exfalso; omega) (by omega) (by omega) (by omega) (fun _ s9 h9 => ⟨p, hp, j_23.1, PLs2_f (fun a i z => ⟨(F_n F3 (show ¬ (a = 1 ∨ 3 ≤ a ∧ a ≤ 5) by omega) rfl), (F_nl F3 (show ¬ (a = 1 ∨ 3 ≤ a ∧ a ≤ 5) by omega) rfl)⟩) h9⟩) (fun z => by exfalso; omega) (by rw [j_23.1, j_23.2.1]; exact fun z => q5 (Option.some.inj z)) (fun _ a i z => (F_n F3 (show ¬ (a = 1 ∨ 3 ≤ a ∧ a ≤ 5) by omega) rfl))
  · skip
    have p_24 := p_9 (by omega)
    clear p_9
    have z_25 := p_24.2
    refine b_ine_t (pc := 8) rw_111_8 (A := r2.toInt) rfl (by omega) (to_an (pc := 14) rw_111_14 rfl ?_)
    have j_26 := (PQ_f F3 q1)
    refine tt_gR (pc := 15) rw_111_15 (g_o hG4 rfl) j_26.2.1 (to_an (pc := 18) rw_111_18 rfl (s_gR (pc := 19) rw_111_19 hG4 rfl (v := 1) rfl (s_v (pc := 22) rw_111_22 (dp0 hd (by decide)) (ls0 := [.ref pz, .ref 1, .null]) rfl (Nat.le_of_ble_eq_true rfl) (Nat.le_of_ble_eq_true rfl) rfl (to_rc rfl rfl rfl (g_o hG4 (by rcases hpz with rfl | rfl <;> rfl))) rfl (E_30 hX (dp1 hd (by decide)) hG4 hpz p_24.1 (by omega) (p := pz) (t := t) (nn := nn) (a := (x_sk t nn 0)) (fun r27 M36 hG29 F28 p_30 p_31 p_32 p_33 p_34 p_35 => ?_)))))
    have F37 := FRX.c F11 F28 (fun a i z => show a ≤ 76 ∧ ¬ a = 2 by have z : a = 1 ∧ 6 ≤ i ∧ i ≤ 11 ∨ pz ≤ a ∧ a ≤ pz + 8 := z; omega)
    rcases (show r27.toInt = 0 ∨ r27.toInt = 1 by omega) with h38 | h38
    · skip
      have p_39 := p_34 (by omega)
      clear p_33 p_34 p_35
      refine b_ine_f (pc := 25) rw_111_25 (A := r27.toInt) rfl (by omega) (to_c (pc := 28) rw_111_28 (x := (-1 : Int32)) rfl rfl (to_r0 (pc := 29) rw_111_29 ?_))
      have k_40 : (-1 : Int32).toInt = -1 := rfl
      have c_41 : M36.2.1 0 12 = (M.2.1 0 12) := (F_n F28 (show ¬ (0 = 1 ∧ 6 ≤ 12 ∧ 12 ≤ 11 ∨ pz ≤ 0 ∧ 0 ≤ pz + 8) by omega) (F_n F3 (show ¬ (0 = 1 ∨ 3 ≤ 0 ∧ 0 ≤ 5) by decide) rfl))
      have b_42 := g_b hG (a := 0) (i := 12) (lo := 0) (hi := 30) rfl rfl
      have t_43 : (M36.2.1 0 12).toInt = (M.2.1 0 12).toInt := congrArg Int32.toInt c_41
      have c_44 : M36.2.1 6 0 = (M.2.1 6 0) := (F_n F28 (show ¬ (6 = 1 ∧ 6 ≤ 0 ∧ 0 ≤ 11 ∨ pz ≤ 6 ∧ 6 ≤ pz + 8) by omega) (F_n F3 (show ¬ (6 = 1 ∨ 3 ≤ 6 ∧ 6 ≤ 5) by decide) rfl))
      have b_45 := g_b hG (a := 6) (i := 0) (lo := 0) (hi := 150) rfl rfl
      have t_46 : (M36.2.1 6 0).toInt = (M.2.1 6 0).toInt := congrArg Int32.toInt c_44
      have c_47 : M36.2.1 17 4 = (M.2.1 17 4) := (F_n F28 (show ¬ (17 = 1 ∧ 6 ≤ 4 ∧ 4 ≤ 11 ∨ pz ≤ 17 ∧ 17 ≤ pz + 8) by omega) (F_n F3 (show ¬ (17 = 1 ∨ 3 ≤ 17 ∧ 17 ≤ 5) by decide) rfl))
      have t_48 : (M36.2.1 17 4).toInt = (M.2.1 17 4).toInt := congrArg Int32.toInt c_47
      have j_49 := (PQ_f F28 j_26)
      exact h (-1 : Int32) M36 hG29 F37 (by omega) (fun _ => Or.inl ⟨p_39, rfl⟩) (by omega) (by omega) (by omega) (fun _ s9 h9 => ⟨p, hp, j_49.1, PLs2_f (fun a i z => ⟨(F_n F28 (show ¬ (a = 1 ∧ 6 ≤ i ∧ i ≤ 11 ∨ pz ≤ a ∧ a ≤ pz + 8) by omega) (F_n F3 (show ¬ (a = 1 ∨ 3 ≤ a ∧ a ≤ 5) by omega) rfl)), (F_nl F28 (show ¬ (a = 1 ∧ 6 ≤ i ∧ i ≤ 11 ∨ pz ≤ a ∧ a ≤ pz + 8) by omega) (F_nl F3 (show ¬ (a = 1 ∨ 3 ≤ a ∧ a ≤ 5) by omega) rfl))⟩) h9⟩) (fun z => by exfalso; omega) (by rw [j_49.1, j_49.2.1]; exact fun z => q5 (Option.some.inj z)) (fun _ a i z => (F_n F28 (show ¬ (a = 1 ∧ 6 ≤ i ∧ i ≤ 11 ∨ pz ≤ a ∧ a ≤ pz + 8) by omega) (F_n F3 (show ¬ (a = 1 ∨ 3 ≤ a ∧ a ≤ 5) by omega) rfl)))
    · skip
      have p_50 := p_33 (by omega)
      have p_51 := p_35 (by omega)
      clear p_33 p_34 p_35
      refine b_ine_t (pc := 25) rw_111_25 (A := r27.toInt) rfl (by omega) (to_an (pc := 30) rw_111_30 rfl ?_)
      have j_52 := (PQ_f F28 j_26)
      refine tt_gR (pc := 31) rw_111_31 (g_o hG29 rfl) j_52.1 (to_asn (pc := 34) rw_111_34 (ls2 := [.ref 0, .int n, .ref p]) rfl rfl (to_an (pc := 35) rw_111_35 rfl (to_an (pc := 36) rw_111_36 rfl (tt_gR (pc := 37) rw_111_37 (g_o hG29 rfl) j_52.2.1 (s_pR (pc := 40) rw_111_40 hG29 rfl (by rcases hpz with rfl | rfl <;> rfl) (fun M54 W53 => ?_))))))
      have hG55 := g_wr hG29 W53 rfl
      have F56 := FRX.wr F37 W53
      have j_57 := PQ_s8 W53 j_52
      refine to_an (pc := 43) rw_111_43 rfl (to_an (pc := 44) rw_111_44 rfl (s_pR (pc := 45) rw_111_45 hG55 rfl (by rcases hp with rfl | rfl <;> rfl) (fun M59 W58 => ?_)))
      have hG60 := g_wr hG55 W58 rfl
      have F61 := FRX.wr F56 W58
      have j_62 := PQ_s9 W58 j_57
      refine to_an (pc := 48) rw_111_48 rfl (to_c (pc := 49) rw_111_49 (x := (0 : Int32)) rfl rfl (s_pI (pc := 50) rw_111_50 hG60 rfl (fun M64 W63 => ?_)))
      have hG65 := g_w hG60 W63 (A := 0) rfl (lo := 0) (hi := 30) rfl rfl (by omega) (by decide)
      have F66 := FRX.w F61 W63 (show 0 ≤ 76 ∧ ¬ 0 = 2 by decide)
      refine to_an (pc := 53) rw_111_53 rfl (s_gR (pc := 54) rw_111_54 hG65 rfl (v := 6) rfl (to_c (pc := 57) rw_111_57 (x := (0 : Int32)) rfl rfl (s_pI (pc := 58) rw_111_58 hG65 rfl (fun M68 W67 => ?_))))
      have hG69 := g_w hG65 W67 (A := 0) rfl (lo := 0) (hi := 150) rfl rfl (by omega) (by decide)
      have F70 := FRX.w F66 W67 (show 6 ≤ 76 ∧ ¬ 6 = 2 by decide)
      refine to_an (pc := 61) rw_111_61 rfl ?_
      have j_71 := (PQ_w W67 (PQ_w W63 j_62))
      refine tt_gR (pc := 62) rw_111_62 (g_o hG69 rfl) j_71.2.2.1 (s_v (pc := 65) rw_111_65 (dp0 hd (by decide)) (ls0 := [.ref q]) rfl (Nat.le_of_ble_eq_true rfl) (Nat.le_of_ble_eq_true rfl) rfl (to_rc rfl rfl rfl (g_o hG69 (by rcases hq with rfl | rfl <;> rfl))) rfl (to_an (pc := 0) rw_56_0 rfl (to_c (pc := 1) rw_56_1 (x := (0 : Int32)) rfl rfl (s_pI (pc := 2) rw_56_2 hG69 (by rcases hq with rfl | rfl <;> rfl) (fun M73 W72 => ?_)))))
      have hG74 := g_w hG69 W72 (A := 0) rfl (lo := 0) (hi := 40) (by rcases hq with rfl | rfl <;> rfl) (by rcases hq with rfl | rfl <;> rfl) (by omega) (by omega)
      have F75 := FRX.w F70 W72 (show q ≤ 76 ∧ ¬ q = 2 by omega)
      refine to_an (pc := 5) rw_56_5 rfl (to_c (pc := 6) rw_56_6 (x := (0 : Int32)) rfl rfl (s_pI (pc := 7) rw_56_7 hG74 (by rcases hq with rfl | rfl <;> rfl) (fun M77 W76 => ?_)))
      have hG78 := g_w hG74 W76 (A := 0) rfl (lo := 0) (hi := 40) (by rcases hq with rfl | rfl <;> rfl) (by rcases hq with rfl | rfl <;> rfl) (by omega) (by omega)
      have F79 := FRX.w F75 W76 (show q ≤ 76 ∧ ¬ q = 2 by omega)
      refine to_rv (pc := 10) rw_56_10 (to_an (pc := 68) rw_111_68 rfl (s_gR (pc := 69) rw_111_69 hG78 rfl (v := 17) rfl (s_v (pc := 72) rw_111_72 (dp0 hd (by decide)) (ls0 := [.ref 17, .null]) rfl (Nat.le_of_ble_eq_true rfl) (Nat.le_of_ble_eq_true rfl) rfl (to_rc rfl rfl rfl (g_o hG78 rfl)) rfl (C_22 hX (dp1 hd (by decide)) hG78  (fun M83 hG81 F80 p_82 => ?_)))))
      have F84 := FRX.c F79 F80 tg_182
      refine to_an (pc := 75) rw_111_75 rfl ?_
      have j_85 := (PQ_f F80 (PQ_w W76 (PQ_w W72 j_71)))
      refine tt_gR (pc := 76) rw_111_76 (g_o hG81 rfl) j_85.1 ?_
      have c_86 : M83.2.1 pz 1 = (M36.2.1 pz 1) := (F_n F80 (show ¬ (17 ≤ pz ∧ pz ≤ 27) by omega) (W_n W76 (by omega) (W_n W72 (by omega) (W_n W67 (by omega) (W_n W63 (by omega) (W_rf W58 (W_rf W53 rfl)))))))
      refine tt_gI (pc := 79) rw_111_79 (g_o hG81 (by rcases hpz with rfl | rfl <;> rfl)) (v := (M36.2.1 pz 1)) c_86 (to_r0 (pc := 82) rw_111_82 ?_)
      have c_87 : M83.2.1 0 12 = (0 : Int32) := (F_n F80 (show ¬ (17 ≤ 0 ∧ 0 ≤ 27) by decide) (W_n W76 (by omega) (W_n W72 (by omega) (W_n W67 (by decide) (W_e W63)))))
      have k_88 : (0 : Int32).toInt = 0 := rfl
      have t_89 : (M83.2.1 0 12).toInt = (0 : Int32).toInt := congrArg Int32.toInt c_87
      have c_90 : M83.2.1 6 0 = (0 : Int32) := (F_n F80 (show ¬ (17 ≤ 6 ∧ 6 ≤ 27) by decide) (W_n W76 (by omega) (W_n W72 (by omega) (W_e W67))))
      have t_91 : (M83.2.1 6 0).toInt = (0 : Int32).toInt := congrArg Int32.toInt c_90
      exact h (M36.2.1 pz 1) M83 hG81 F84 (by omega) (fun _ => Or.inr (Exists.elim p_51 (fun s2 h9 => ⟨s2, h9.1⟩))) (by omega) (by omega) (by omega) (fun z => by exfalso; omega) (fun _ => Exists.elim p_51 (fun s2 h9 => ⟨s2, h9.1, pz, hpz, j_85.1, PLs2_f (fun a i z => ⟨(F_n F80 (show ¬ (17 ≤ a ∧ a ≤ 27) by omega) (W_n W76 (by omega) (W_n W72 (by omega) (W_n W67 (by /-r6,0-/ omega) (W_n W63 (by /-r0,12-/ omega) (W_rf W58 (W_rf W53 rfl))))))), (F_nl F80 (show ¬ (17 ≤ a ∧ a ≤ 27) by omega) (W_j W76 (W_j W72 (W_j W67 (W_j W63 (W_rl W58 (W_rl W53 rfl)))))))⟩) (PLs2_c h9.2)⟩)) (by rw [j_85.1, j_85.2.1]; exact fun z => q5 (Option.some.inj z.symm)) (fun z => by exfalso; omega)
theorem D_111 {X : mm_X} {d : Nat} {M : mm_M} {Q : Option Value → mm_M → Prop} {n : Int32} {p : Nat} {pz : Nat} {q : Nat} {qz : Nat} {t : Nat → Int} {nn : Int} (hX : g_X X) (hd : 6 ≤ d) (hG : g_G M) (hp : p = 49 ∨ p = 58) (hpz : pz = 49 ∨ pz = 58) (hq : q = 67 ∨ q = 72) (hqz : qz = 67 ∨ qz = 72) (q1 : g_PQ M p pz q qz) (q2 : PI M) (q3 : NI M) (q4 : QI M) (q5 : 0 ≤ n.toInt ∧ n.toInt ≤ (M.2.1 1 1).toInt → n.toInt = nn) (q6 : TT M t nn) (q7 : g_W X) (q8 : p ≠ pz) (h : ∀ (r : Int32) (M1 : mm_M), g_G M1 → FRX md_X M M1 → (n.toInt < 0 ∨ (M.2.1 1 1).toInt < n.toInt → (M1.2.1 1 1).toInt = (M.2.1 1 1).toInt) → (0 ≤ n.toInt ∧ n.toInt ≤ (M.2.1 1 1).toInt → (M1.2.1 1 1).toInt = 0) → PI M1 → g_PP M1 p pz q qz → NI M1 → QI M1 → (n.toInt < 0 ∨ (M.2.1 1 1).toInt < n.toInt → r.toInt = -2) → ((0 ≤ n.toInt ∧ n.toInt ≤ (M.2.1 1 1).toInt → PAN (x_plan t nn 23 0 x_s0 (x_sk t nn 0)) r.toInt)) → (-2 ≤ r.toInt) → (r.toInt < 0 → (M1.2.1 0 12).toInt = (M.2.1 0 12).toInt ∧ (M1.2.1 6 0).toInt = (M.2.1 6 0).toInt ∧ (M1.2.1 17 4).toInt = (M.2.1 17 4).toInt) → (0 ≤ r.toInt → (M1.2.1 0 12).toInt = 0 ∧ (M1.2.1 6 0).toInt = 0 ∧ (M1.2.1 17 4).toInt = 0) → ((r.toInt < 0 → ∀ s9 : x_S, PLs2 M p s9 → TPl M1 s9)) → ((0 ≤ r.toInt → ∃ s2 : x_S, x_plan t nn 23 0 x_s0 (x_sk t nn 0) = some (r.toInt, s2) ∧ TPl M1 s2)) → (M1.2.2.2 0 8 ≠ M1.2.2.2 0 9) → ((r.toInt < 0 → ∀ a i : Nat, (6 ≤ a ∧ a ≤ 10 ∨ a = 0 ∧ i = 12) → M1.2.1 a i = M.2.1 a i)) → Q (some (.int r)) M1) : mm_T X d 111 0 [.ref 0, .int n, .null] [] M Q := by
  refine T_im (T_and (C_111 hX (by omega) hG hp hpz hq hqz q1 q2 q3 q4 (p := p) (pz := pz) (q := q) (qz := qz) (n := n) (Q := (fun v M1 => ∃ r : Int32, v = some (.int r) ∧ g_G M1 ∧ FRX md_X M M1 ∧ (n.toInt < 0 ∨ (M.2.1 1 1).toInt < n.toInt → (M1.2.1 1 1).toInt = (M.2.1 1 1).toInt) ∧ (0 ≤ n.toInt ∧ n.toInt ≤ (M.2.1 1 1).toInt → (M1.2.1 1 1).toInt = 0) ∧ PI M1 ∧ g_PP M1 p pz q qz ∧ NI M1 ∧ QI M1)) (fun r M1 a0 a1 a2 a3 a4 a5 a6 a7 => ⟨r, rfl, a0, a1, a2, a3, a4, a5, a6, a7⟩)) (E_111 hX (by omega) hG hp hpz hq hqz q1 q5 q6 q7 q8 (p := p) (pz := pz) (q := q) (qz := qz) (t := t) (nn := nn) (n := n) (Q := (fun v M1 => ∃ r : Int32, v = some (.int r) ∧ (n.toInt < 0 ∨ (M.2.1 1 1).toInt < n.toInt → r.toInt = -2) ∧ ((0 ≤ n.toInt ∧ n.toInt ≤ (M.2.1 1 1).toInt → PAN (x_plan t nn 23 0 x_s0 (x_sk t nn 0)) r.toInt)) ∧ (-2 ≤ r.toInt) ∧ (r.toInt < 0 → (M1.2.1 0 12).toInt = (M.2.1 0 12).toInt ∧ (M1.2.1 6 0).toInt = (M.2.1 6 0).toInt ∧ (M1.2.1 17 4).toInt = (M.2.1 17 4).toInt) ∧ (0 ≤ r.toInt → (M1.2.1 0 12).toInt = 0 ∧ (M1.2.1 6 0).toInt = 0 ∧ (M1.2.1 17 4).toInt = 0) ∧ ((r.toInt < 0 → ∀ s9 : x_S, PLs2 M p s9 → TPl M1 s9)) ∧ ((0 ≤ r.toInt → ∃ s2 : x_S, x_plan t nn 23 0 x_s0 (x_sk t nn 0) = some (r.toInt, s2) ∧ TPl M1 s2)) ∧ (M1.2.2.2 0 8 ≠ M1.2.2.2 0 9) ∧ ((r.toInt < 0 → ∀ a i : Nat, (6 ≤ a ∧ a ≤ 10 ∨ a = 0 ∧ i = 12) → M1.2.1 a i = M.2.1 a i)))) (fun r M1 _ _ b0 b1 b2 b3 b4 b5 b6 b7 b8 => ⟨r, rfl, b0, b1, b2, b3, b4, b5, b6, b7, b8⟩))) ?_
  intro v M1 hh
  obtain ⟨⟨r, hv, a0, a1, a2, a3, a4, a5, a6, a7⟩, ⟨r2, hv2, b0, b1, b2, b3, b4, b5, b6, b7, b8⟩⟩ := hh
  have e : r2 = r := by
    rw [hv] at hv2
    injection hv2 with z
    injection z with z
    exact z.symm
  subst e
  subst hv
  exact h _ M1 a0 a1 a2 a3 a4 a5 a6 a7 b0 b1 b2 b3 b4 b5 b6 b7 b8
theorem D_173 {X : mm_X} {d : Nat} {M : mm_M} {Q : Option Value → mm_M → Prop} {n : Int32} {t : Nat → Int} {nn : Int} (hX : g_X X) (hd : 5 ≤ d) (hG : g_G M) (q1 : (M.2.1 77 7).toInt ≤ (M.2.1 77 6).toInt) (q2 : FA M) (q3 : WC M) (q4 : NJ M) (q5 : PS M) (q6 : KQ M) (q7 : 0 ≤ n.toInt ∧ n.toInt ≤ (M.2.1 77 1).toInt → n.toInt = nn) (q8 : TR M t nn) (q9 : W9 M) (h : ∀ (r : Int32) (M1 : mm_M), g_G M1 → FR md_P M M1 → ((M1.2.1 77 7).toInt ≤ (M1.2.1 77 6).toInt) → FA M1 → WC M1 → NJ M1 → PS M1 → KQ M1 → (n.toInt < 0 ∨ (M.2.1 77 1).toInt < n.toInt → (M1.2.1 77 1).toInt = (M.2.1 77 1).toInt) → (0 ≤ n.toInt ∧ n.toInt ≤ (M.2.1 77 1).toInt → (M1.2.1 77 1).toInt = 0) → (n.toInt < 0 ∨ (M.2.1 77 1).toInt < n.toInt → r.toInt = -2) → ((0 ≤ n.toInt ∧ n.toInt ≤ (M.2.1 77 1).toInt → PAN (x_plan t nn 23 0 x_s0 (x_sk t nn 0)) r.toInt)) → (-2 ≤ r.toInt) → (r.toInt < 0 → (M1.2.1 77 28).toInt = (M.2.1 77 28).toInt ∧ (M1.2.1 77 29).toInt = (M.2.1 77 29).toInt ∧ (M1.2.1 77 41).toInt = (M.2.1 77 41).toInt) → (0 ≤ r.toInt → (M1.2.1 77 28).toInt = 0 ∧ (M1.2.1 77 29).toInt = 0 ∧ (M1.2.1 77 41).toInt = 0) → ((r.toInt < 0 → ∀ s9 : x_S, PLk2 M s9 → PLk2 M1 s9)) → ((0 ≤ r.toInt → ∃ s2 : x_S, x_plan t nn 23 0 x_s0 (x_sk t nn 0) = some (r.toInt, s2) ∧ PLk2 M1 s2)) → Q (some (.int r)) M1) : mm_T X d 172 0 [.ref 77, .int n, .null] [] M Q := by
  refine T_im (T_and (C_173 hX (by omega) hG q1 q2 q3 q4 q5 q6 (n := n) (Q := (fun v M1 => ∃ r : Int32, v = some (.int r) ∧ g_G M1 ∧ FR md_P M M1 ∧ ((M1.2.1 77 7).toInt ≤ (M1.2.1 77 6).toInt) ∧ FA M1 ∧ WC M1 ∧ NJ M1 ∧ PS M1 ∧ KQ M1 ∧ (n.toInt < 0 ∨ (M.2.1 77 1).toInt < n.toInt → (M1.2.1 77 1).toInt = (M.2.1 77 1).toInt) ∧ (0 ≤ n.toInt ∧ n.toInt ≤ (M.2.1 77 1).toInt → (M1.2.1 77 1).toInt = 0))) (fun r M1 a0 a1 a2 a3 a4 a5 a6 a7 a8 a9 => ⟨r, rfl, a0, a1, a2, a3, a4, a5, a6, a7, a8, a9⟩)) (E_173 hX (by omega) hG q1 q7 q8 q9 (t := t) (nn := nn) (n := n) (Q := (fun v M1 => ∃ r : Int32, v = some (.int r) ∧ (n.toInt < 0 ∨ (M.2.1 77 1).toInt < n.toInt → r.toInt = -2) ∧ ((0 ≤ n.toInt ∧ n.toInt ≤ (M.2.1 77 1).toInt → PAN (x_plan t nn 23 0 x_s0 (x_sk t nn 0)) r.toInt)) ∧ (-2 ≤ r.toInt) ∧ (r.toInt < 0 → (M1.2.1 77 28).toInt = (M.2.1 77 28).toInt ∧ (M1.2.1 77 29).toInt = (M.2.1 77 29).toInt ∧ (M1.2.1 77 41).toInt = (M.2.1 77 41).toInt) ∧ (0 ≤ r.toInt → (M1.2.1 77 28).toInt = 0 ∧ (M1.2.1 77 29).toInt = 0 ∧ (M1.2.1 77 41).toInt = 0) ∧ ((r.toInt < 0 → ∀ s9 : x_S, PLk2 M s9 → PLk2 M1 s9)) ∧ ((0 ≤ r.toInt → ∃ s2 : x_S, x_plan t nn 23 0 x_s0 (x_sk t nn 0) = some (r.toInt, s2) ∧ PLk2 M1 s2)))) (fun r M1 _ _ b0 b1 b2 b3 b4 b5 b6 => ⟨r, rfl, b0, b1, b2, b3, b4, b5, b6⟩))) ?_
  intro v M1 hh
  obtain ⟨⟨r, hv, a0, a1, a2, a3, a4, a5, a6, a7, a8, a9⟩, ⟨r2, hv2, b0, b1, b2, b3, b4, b5, b6⟩⟩ := hh
  have e : r2 = r := by
    rw [hv] at hv2
    injection hv2 with z
    injection z with z
    exact z.symm
  subst e
  subst hv
  exact h _ M1 a0 a1 a2 a3 a4 a5 a6 a7 a8 a9 b0 b1 b2 b3 b4 b5 b6
end
section
/-! THE LAW: what holds between its calls -/
noncomputable def PQE (M : mm_M) : Prop := ∃ p pz q qz : Nat, (p = 49 ∨ p = 58) ∧ (pz = 49 ∨ pz = 58) ∧ (q = 67 ∨ q = 72) ∧ (qz = 67 ∨ qz = 72) ∧ g_PQ M p pz q qz
theorem PQE_r {M M1 : mm_M} (h : M1.2.2.2 = M.2.2.2) (H : PQE M) : PQE M1 := by
  obtain ⟨p, pz, q, qz, h1, h2, h3, h4, h5⟩ := H
  refine ⟨p, pz, q, qz, h1, h2, h3, h4, ?_⟩
  unfold g_PQ at h5 ⊢
  rw [h]
  exact h5
theorem PQE_pp {M : mm_M} {p pz q qz : Nat} (h1 : p = 49 ∨ p = 58) (h2 : pz = 49 ∨ pz = 58) (h3 : q = 67 ∨ q = 72) (h4 : qz = 67 ∨ qz = 72) (h : g_PP M p pz q qz) : PQE M := by
  rcases h with h | h
  · exact ⟨p, pz, q, qz, h1, h2, h3, h4, h⟩
  · exact ⟨pz, p, q, qz, h2, h1, h3, h4, h⟩
theorem PQE_qq {M : mm_M} {p pz q qz : Nat} (h1 : p = 49 ∨ p = 58) (h2 : pz = 49 ∨ pz = 58) (h3 : q = 67 ∨ q = 72) (h4 : qz = 67 ∨ qz = 72) (h : g_QQ M p pz q qz) : PQE M := by
  rcases h with h | h
  · exact ⟨p, pz, q, qz, h1, h2, h3, h4, h⟩
  · exact ⟨p, pz, qz, q, h1, h2, h4, h3, h⟩
theorem Fx_n {M M1 : mm_M} {P : Nat → Nat → Prop} {a i : Nat} {w : Int32} (F : FRX P M M1) (hn : ¬ P a i) (h : M.2.1 a i = w) : M1.2.1 a i = w := (F.2 a i hn).1.trans h
theorem K_n {M M1 : mm_M} {a i : Nat} {w : Int32} (K : M1.2.1 = M.2.1) (h : M.2.1 a i = w) : M1.2.1 a i = w := by rw [K]; exact h
noncomputable def LI (M : mm_M) : Prop := g_G M ∧ (PI M ∧ NI M ∧ QI M ∧ PQE M) ∧ (FA M ∧ WC M ∧ NJ M ∧ PS M ∧ KQ M) ∧ (M.2.1 77 7).toInt ≤ (M.2.1 77 6).toInt ∧ (M.2.1 1 1).toInt = (M.2.1 77 1).toInt
theorem g_mk {M : mm_M} (hG : g_G M) : g_G (mm_mark M) := hG
section S5
variable {X : mm_X} {d mi pc : Nat} {ls st : List Value} {M : mm_M} {Q : Option Value → mm_M → Prop} {len a b : Nat} {ps : List Nat} {x : Int32} {A : Int} {L : Nat}
theorem s_x0 (hc : mm_code mi pc = some (.iaload, len, a, b, ps)) (hL : (X 0).1 = L) (ex : x.toInt = A) (h0 : 0 ≤ A) (h1 : A < (L : Int)) (h : ∀ v : Int32, (X 0).2 A.toNat = v → mm_T X d mi (pc + len) ls (.int v :: st) M Q) : mm_T X d mi pc ls (.int x :: .ref mm_ext :: st) M Q := tt_xal (e := 0) hc (by rw [hL]; exact i_ix ex h0 h1) rfl (h _ (by rw [show x.toNatClampNeg = A.toNat by rw [← ex]; rfl]))
theorem s_x0k {v : Int32} (hc : mm_code mi pc = some (.iaload, len, a, b, ps)) (hL : (X 0).1 = L) (ex : x.toInt = A) (h0 : 0 ≤ A) (h1 : A < (L : Int)) (hv : (X 0).2 A.toNat = v) (h : mm_T X d mi (pc + len) ls (.int v :: st) M Q) : mm_T X d mi pc ls (.int x :: .ref mm_ext :: st) M Q := tt_xal (e := 0) hc (by rw [hL]; exact i_ix ex h0 h1) (by rw [show x.toNatClampNeg = A.toNat by rw [← ex]; rfl]; exact hv) h
theorem i_nat {n : Nat} (h : n ≤ 3072) : (Int32.ofNat n).toInt = (n : Int) := by
  rw [Int32.toInt_ofNat']
  exact i_bm (by omega)
theorem s_xlen0 (hc : mm_code mi pc = some (.arraylength, len, a, b, ps)) (hL : (X 0).1 = L) (h3 : L ≤ 3072) (h : ∀ v : Int32, v.toInt = (L : Int) → mm_T X d mi (pc + len) ls (.int v :: st) M Q) : mm_T X d mi pc ls (.ref mm_ext :: st) M Q := to_xlen (e := 0) hc (by rw [hL]) (h _ (i_nat h3))
theorem s_lk {k : Nat} {f w : Int32} {rest : List Value} (hc : mm_code mi pc = some (.invokestatic k, len, 998, 4, ps)) (hd : 1 ≤ d) (h8 : Nat.ble (mm_w8 rest) 8 = true) (hG : g_G M) (hpq : PQE M) (h : ∀ (r : Int32) (M1 : mm_M), g_G M1 → M1.2.1 = M.2.1 → M1.2.2.2 = M.2.2.2 → M1.1.2.1 = M.1.2.1 + 1 → M1.1.2.2.1 = M.1.2.2.1 + 6 → mm_T X d mi (pc + 3) ls (.int r :: rest) M1 Q) : mm_T X d mi pc ls (.ref 125 :: .int w :: .int f :: .ref 0 :: rest) M Q := by
  obtain ⟨e, rfl⟩ : ∃ e, d = e + 1 := ⟨d - 1, by omega⟩
  obtain ⟨p, pz, q, qz, hp, -, -, -, h5, -, -, -⟩ := hpq
  have key : ∃ (r : Int32) (M1 : mm_M), mm_look M [.ref 0, .int f, .int w, .ref 125] = some (some (.int r), M1) ∧ g_G M1 ∧ M1.2.1 = M.2.1 ∧ M1.2.2.2 = M.2.2.2 ∧ M1.1.2.1 = M.1.2.1 + 1 ∧ M1.1.2.2.1 = M.1.2.2.1 + 6 := by
    have e9 : (mm_isObj M 0 10 && mm_isObj M 125 101 && Nat.beq (M.1.1.2.2 125) 1) = true := by
      rw [g_o hG rfl, g_o hG rfl, g_l (n := 1) hG rfl rfl]; rfl
    have hp5 : mm_isObj M p 5 = true := g_o hG (by rcases hp with rfl | rfl <;> rfl)
    simp only [mm_look, e9, h5, hp5, cond_true]
    by_cases g1 : f < 0
    · rw [if_pos g1]; exact ⟨1, _, rfl, hG, rfl, rfl, rfl, rfl⟩
    · rw [if_neg g1]
      by_cases g2 : M.2.1 p 2 ≤ f
      · rw [if_pos g2]; exact ⟨1, _, rfl, hG, rfl, rfl, rfl, rfl⟩
      · rw [if_neg g2]
        by_cases g3 : w = 0 ∨ w = 1 ∨ w = 2 ∨ w = 3
        · rw [if_pos g3]
          have hb : (M.2.1 p 2).toInt ≤ 8 := (g_b (lo := 0) (hi := 8) hG (by rcases hp with rfl | rfl <;> rfl) (by rcases hp with rfl | rfl <;> rfl)).2
          have f0 : ¬ f.toInt < 0 := fun z => g1 (Int32.lt_iff_toInt_lt.mpr z)
          have f1 : ¬ (M.2.1 p 2).toInt ≤ f.toInt := fun z => g2 (Int32.le_iff_toInt_le.mpr z)
          obtain ⟨r, hr, ho, hn⟩ : ∃ r : Nat, M.2.2.2 p (6 + w.toNatClampNeg) = some r ∧ mm_isObj M r 100 = true ∧ M.1.1.2.2 r = 8 := by
            rcases g3 with rfl | rfl | rfl | rfl
            · exact ⟨p + 2, g_r hG (by rcases hp with rfl | rfl <;> rfl), g_o hG (by rcases hp with rfl | rfl <;> rfl), g_l hG (by rcases hp with rfl | rfl <;> rfl) (by rcases hp with rfl | rfl <;> rfl)⟩
            · exact ⟨p + 3, g_r hG (by rcases hp with rfl | rfl <;> rfl), g_o hG (by rcases hp with rfl | rfl <;> rfl), g_l hG (by rcases hp with rfl | rfl <;> rfl) (by rcases hp with rfl | rfl <;> rfl)⟩
            · exact ⟨p + 4, g_r hG (by rcases hp with rfl | rfl <;> rfl), g_o hG (by rcases hp with rfl | rfl <;> rfl), g_l hG (by rcases hp with rfl | rfl <;> rfl) (by rcases hp with rfl | rfl <;> rfl)⟩
            · exact ⟨p + 5, g_r hG (by rcases hp with rfl | rfl <;> rfl), g_o hG (by rcases hp with rfl | rfl <;> rfl), g_l hG (by rcases hp with rfl | rfl <;> rfl) (by rcases hp with rfl | rfl <;> rfl)⟩
          have hlt : Nat.blt f.toNatClampNeg 8 = true := by
            have e2 : f.toNatClampNeg = f.toInt.toNat := rfl
            rw [e2]
            exact Nat.ble_eq_true_of_le (by omega)
          simp only [hr]
          rw [ho, hn, hlt]
          exact ⟨0, _, rfl, hG, rfl, rfl, rfl, rfl⟩
        · rw [if_neg g3]; exact ⟨2, _, rfl, hG, rfl, rfl, rfl, rfl⟩
  obtain ⟨r, M1, hl, k1, k2, k3, k4, k5⟩ := key
  exact tt_1 hc (tt_look (Nat.le_of_ble_eq_true h8) hl (h r M1 k1 k2 k3 k4 k5))
end S5
noncomputable def LI3 (M : mm_M) : Prop := LI M ∧ TP M ∧ W9 M
noncomputable def LI4 (M : mm_M) : Prop := LI3 M ∧ NE M ∧ (M.2.1 0 12).toInt = (M.2.1 77 28).toInt
noncomputable def LI5 (M : mm_M) : Prop := LI4 M ∧ AL M
noncomputable def LI6 (M : mm_M) : Prop := LI5 M ∧ (M.2.1 17 4).toInt = (M.2.1 77 41).toInt
noncomputable def LI7 (M : mm_M) : Prop := LI6 M ∧ W8 M
noncomputable def LI8 (M : mm_M) : Prop := LI7 M ∧ (M.2.1 6 0).toInt = (M.2.1 77 29).toInt
noncomputable def LI9 (M : mm_M) : Prop := LI8 M ∧ AN M
end
