section
theorem tg_355 {M M1 : mm_M} (F : FR (fun a i : Nat => 94 ≤ a ∧ a ≤ 98) M M1) : ∀ a i : Nat, WC_r a i → M1.2.1 a i = M.2.1 a i := fun a i z => F_n F (show ¬ (94 ≤ a ∧ a ≤ 98) by omega) rfl
theorem tg_356 : ∀ a i : Nat, (a < 0) → (a = 77 ∧ i = 2 ∨ 94 ≤ a ∧ a ≤ 98 ∨ a = 118) := fun a i z => by omega
theorem tg_357 : ∀ a i : Nat, (94 ≤ a ∧ a ≤ 98) → (a = 77 ∧ i = 2 ∨ 94 ≤ a ∧ a ≤ 98 ∨ a = 118) := fun a i z => by omega
set_option maxRecDepth 4000 in
set_option maxHeartbeats 0 in
theorem T_237_0 {X : mm_X} {d : Nat} {M : mm_M} {Q : Option Value → mm_M → Prop} {n : Int32} {w : Int32} (hX : g_X X) (hd : 3 ≤ d) (q1 : NJ M) (q2 : FA M) (q3 : WC M) (h : ∀ (r : Int32) (M1 : mm_M), g_G M1 → FR md_bs M M1 → Q (some (.int r)) M1) : ∀ nn9 : Nat, (∀ (N : mm_M) (u1 : Value) (x3 : Int32) (x4 : Int32) (x5 : Int32) (x6 : Int32) (x7 : Int32) (u8 : Value) (u9 : Value) (u10 : Value) (u11 : Value) (u12 : Value) (u13 : Value), g_G N → FR md_bs M N → (1 ≤ x4.toInt) → (x4.toInt ≤ 4) → (0 ≤ x3.toInt) → (x3.toInt ≤ 7) → (0 ≤ w.toInt) → (w.toInt ≤ 11) → (x4.toInt ≤ (N.2.1 83 (x3.toInt).toNat).toInt - (N.2.1 82 (x3.toInt).toNat).toInt + 1) → (∀ i : Nat, i < (x4.toInt).toNat → (N.2.1 118 i).toInt ≤ (N.2.1 83 (x3.toInt).toNat).toInt - (N.2.1 82 (x3.toInt).toNat).toInt + 1 - x4.toInt + i) → (16777216 - PV N (x4.toInt).toNat) * 1000 + 500 < (nn9 : Int) → mm_T X d 236 77 [.ref 77, u1, .int w, .int x3, .int x4, .int x5, .int x6, .int x7, u8, u9, u10, u11, u12, u13] [] N Q) ∧ (∀ (N : mm_M) (u1 : Value) (x3 : Int32) (x4 : Int32) (x5 : Int32) (x6 : Int32) (x7 : Int32) (x8 : Int32) (x9 : Int32) (u10 : Value) (u11 : Value) (u12 : Value) (u13 : Value), g_G N → FR md_bs M N → (1 ≤ x4.toInt) → (x4.toInt ≤ 4) → (0 ≤ x3.toInt) → (x3.toInt ≤ 7) → (0 ≤ w.toInt) → (w.toInt ≤ 11) → (x4.toInt ≤ (N.2.1 83 (x3.toInt).toNat).toInt - (N.2.1 82 (x3.toInt).toNat).toInt + 1) → (0 ≤ x9.toInt) → (x9.toInt ≤ 4) → (∀ i : Nat, i < (x4.toInt).toNat → (N.2.1 118 i).toInt ≤ (N.2.1 83 (x3.toInt).toNat).toInt - (N.2.1 82 (x3.toInt).toNat).toInt + 1 - x4.toInt + i) → (16777216 - PV N (x4.toInt).toNat) * 1000 + 400 - x9.toInt < (nn9 : Int) → mm_T X d 236 83 [.ref 77, u1, .int w, .int x3, .int x4, .int x5, .int x6, .int x7, .int x8, .int x9, u10, u11, u12, u13] [] N Q) ∧ (∀ (N : mm_M) (u1 : Value) (x3 : Int32) (x4 : Int32) (x5 : Int32) (x6 : Int32) (x7 : Int32) (u8 : Value) (u9 : Value) (u10 : Value) (u11 : Value) (x12 : Int32) (u13 : Value), g_G N → FR md_bs M N → (1 ≤ x4.toInt) → (x4.toInt ≤ 4) → (0 ≤ x3.toInt) → (x3.toInt ≤ 7) → (0 ≤ w.toInt) → (w.toInt ≤ 11) → (x4.toInt ≤ (N.2.1 83 (x3.toInt).toNat).toInt - (N.2.1 82 (x3.toInt).toNat).toInt + 1) → (-1 ≤ x12.toInt) → (x12.toInt ≤ 3) → (x12.toInt < x4.toInt) → (∀ i : Nat, i < (x4.toInt).toNat → (N.2.1 118 i).toInt ≤ (N.2.1 83 (x3.toInt).toNat).toInt - (N.2.1 82 (x3.toInt).toNat).toInt + 1 - x4.toInt + i) → (16777216 - PV N (x4.toInt).toNat) * 1000 + 200 + x12.toInt < (nn9 : Int) → mm_T X d 236 226 [.ref 77, u1, .int w, .int x3, .int x4, .int x5, .int x6, .int x7, u8, u9, u10, u11, .int x12, u13] [] N Q) ∧ (∀ (N : mm_M) (u1 : Value) (x3 : Int32) (x4 : Int32) (x5 : Int32) (x6 : Int32) (x7 : Int32) (u8 : Value) (u9 : Value) (u10 : Value) (u11 : Value) (u12 : Value) (x13 : Int32), g_G N → FR md_bs M N → (1 ≤ x4.toInt) → (x4.toInt ≤ 4) → (0 ≤ x3.toInt) → (x3.toInt ≤ 7) → (0 ≤ w.toInt) → (w.toInt ≤ 11) → (x4.toInt ≤ (N.2.1 83 (x3.toInt).toNat).toInt - (N.2.1 82 (x3.toInt).toNat).toInt + 1) → (1 ≤ x13.toInt) → (x13.toInt ≤ 4) → (x13.toInt ≤ x4.toInt) → (∀ i : Nat, i < (x13.toInt).toNat → (N.2.1 118 i).toInt ≤ (N.2.1 83 (x3.toInt).toNat).toInt - (N.2.1 82 (x3.toInt).toNat).toInt + 1 - x4.toInt + i) → (16777216 - PW N (x13.toInt).toNat (x4.toInt).toNat) * 1000 + 900 - x13.toInt < (nn9 : Int) → mm_T X d 236 283 [.ref 77, u1, .int w, .int x3, .int x4, .int x5, .int x6, .int x7, u8, u9, u10, u11, u12, .int x13] [] N Q) := by
  intro nn9
  induction nn9 with
  | zero =>
    refine ⟨?_, ?_, ?_, ?_⟩
    · intro N u1 x3 x4 x5 x6 x7 u8 u9 u10 u11 u12 u13 hG F0 g1 g2 g3 g4 g5 g6 g7 g8 hm
      have s_1 := PV_b hG (x4.toInt).toNat
      have s_2 := pw_4 (k := (x4.toInt).toNat) (by omega)
      exfalso; omega
    · intro N u1 x3 x4 x5 x6 x7 x8 x9 u10 u11 u12 u13 hG F0 g1 g2 g3 g4 g5 g6 g7 g8 g9 g10 hm
      have s_3 := PV_b hG (x4.toInt).toNat
      have s_4 := pw_4 (k := (x4.toInt).toNat) (by omega)
      exfalso; omega
    · intro N u1 x3 x4 x5 x6 x7 u8 u9 u10 u11 x12 u13 hG F0 g1 g2 g3 g4 g5 g6 g7 g8 g9 g10 g11 hm
      have s_5 := PV_b hG (x4.toInt).toNat
      have s_6 := pw_4 (k := (x4.toInt).toNat) (by omega)
      exfalso; omega
    · intro N u1 x3 x4 x5 x6 x7 u8 u9 u10 u11 u12 x13 hG F0 g1 g2 g3 g4 g5 g6 g7 g8 g9 g10 g11 hm
      have s_7 := PW_b hG (j := (x13.toInt).toNat) (k := (x4.toInt).toNat) (by omega) (by omega)
      exfalso; omega
  | succ nn9 ih =>
    refine ⟨?_, ?_, ?_, ?_⟩
    · intro N u1 x3 x4 x5 x6 x7 u8 u9 u10 u11 u12 u13 hG F0 g1 g2 g3 g4 g5 g6 g7 g8 hm
      have s_8 := PV_b hG (x4.toInt).toNat
      have s_9 := pw_4 (k := (x4.toInt).toNat) (by omega)
      have s_10 := g_b hG (a := 83) (i := (x3.toInt).toNat) (lo := 0) (hi := 63) rfl rfl
      have s_11 := g_b hG (a := 82) (i := (x3.toInt).toNat) (lo := 0) (hi := 59) rfl rfl
      refine to_c (pc := 77) rw_237_77 (x := (0 : Int32)) rfl rfl (to_is (pc := 78) rw_237_78 (ls2 := [.ref 77, u1, .int w, .int x3, .int x4, .int x5, .int x6, .int x7, .int (0 : Int32), u9, u10, u11, u12, u13]) rfl rfl (to_c (pc := 80) rw_237_80 (x := (0 : Int32)) rfl rfl (to_is (pc := 81) rw_237_81 (ls2 := [.ref 77, u1, .int w, .int x3, .int x4, .int x5, .int x6, .int x7, .int (0 : Int32), .int (0 : Int32), u10, u11, u12, u13]) rfl rfl ?_)))
      have k_12 : (0 : Int32).toInt = 0 := rfl
      exact ih.2.1 N (u1) x3 x4 x5 x6 x7 (0 : Int32) (0 : Int32) (u10) (u11) (u12) (u13) hG F0 (by omega) (by omega) (by omega) (by omega) (by omega) (by omega) (by omega) (by omega) (by omega) g8 (by omega)
    · intro N u1 x3 x4 x5 x6 x7 x8 x9 u10 u11 u12 u13 hG F0 g1 g2 g3 g4 g5 g6 g7 g8 g9 g10 hm
      have s_13 := PV_b hG (x4.toInt).toNat
      have s_14 := pw_4 (k := (x4.toInt).toNat) (by omega)
      have s_15 := g_b hG (a := 83) (i := (x3.toInt).toNat) (lo := 0) (hi := 63) rfl rfl
      have s_16 := g_b hG (a := 82) (i := (x3.toInt).toNat) (lo := 0) (hi := 59) rfl rfl
      refine to_i (pc := 83) rw_237_83 rfl (to_i (pc := 85) rw_237_85 rfl (b_cge (pc := 87) rw_237_87 (A := x9.toInt) (B := x4.toInt) rfl rfl (fun h17 => ?_) (fun h17 => ?_)))
      · refine to_an (pc := 110) rw_237_110 rfl (to_in (pc := 111) rw_237_111 rfl (to_an (pc := 112) rw_237_112 rfl (to_in (pc := 113) rw_237_113 rfl (to_i (pc := 114) rw_237_114 rfl (s_v (pc := 116) rw_237_116 (dp0 hd (by decide)) (ls0 := [.ref 77, .int w, .int x8]) rfl (Nat.le_of_ble_eq_true rfl) (Nat.le_of_ble_eq_true rfl) rfl (to_rc rfl rfl rfl (g_o hG rfl)) rfl (to_in (pc := 0) rw_188_0 rfl (s_i2l (pc := 1) rw_188_1 (fun l18 e19 => to_an (pc := 2) rw_188_2 rfl (s_gR (pc := 3) rw_188_3 hG rfl (v := 82) rfl (to_an (pc := 6) rw_188_6 rfl (s_gR (pc := 7) rw_188_7 hG rfl (v := 86) rfl ?_)))))))))))
        refine to_in (pc := 10) rw_188_10 rfl (s_ial (pc := 11) rw_188_11 hG rfl (n := 24) rfl rfl (A := w.toInt) rfl (by omega) (by omega) (lo := 0) (hi := 7) rfl rfl (fun v20 w_21 _ _ => s_ial (pc := 12) rw_188_12 hG rfl (n := 16) rfl rfl (A := v20.toInt) rfl (by omega) (by omega) (lo := 0) (hi := 59) rfl rfl (fun v22 w_23 _ _ => ?_)))
        have t_24 := congrArg Int32.toInt w_23
        refine s_anyS (pc := 13) rw_188_13 (fun _ _ => rfl) (fun l25 => to_rl (pc := 14) rw_188_14 (s_v (pc := 119) rw_237_119 (dp0 hd (by decide)) (ls0 := [.ref 77, .int w, .long l25, .null, .null, .null]) rfl (Nat.le_of_ble_eq_true rfl) (Nat.le_of_ble_eq_true rfl) rfl (to_rc rfl rfl rfl (g_o hG rfl)) rfl (C_234 hX (dp1 hd (by decide)) hG (w := w) (x := l25) (fun r26 M29 hG28 F27 => ?_))))
        have F30 := FR.c F0 F27 tg_356
        refine to_is (pc := 122) rw_237_122 (ls2 := [.ref 77, u1, .int w, .int x3, .int x4, .int x5, .int x6, .int x7, .int x8, .int r26, u10, u11, u12, u13]) rfl rfl (to_i (pc := 124) rw_237_124 rfl (to_c (pc := 126) rw_237_126 (x := (-1 : Int32)) rfl rfl (b_ceq (pc := 127) rw_237_127 (A := x5.toInt) (B := -1) rfl rfl (fun h31 => ?_) (fun h31 => ?_))))
        · refine to_an (pc := 137) rw_237_137 rfl (to_in (pc := 138) rw_237_138 rfl (to_an (pc := 139) rw_237_139 rfl (to_in (pc := 140) rw_237_140 rfl (to_i (pc := 141) rw_237_141 rfl (s_v (pc := 143) rw_237_143 (dp0 hd (by decide)) (ls0 := [.ref 77, .int w, .int x8]) rfl (Nat.le_of_ble_eq_true rfl) (Nat.le_of_ble_eq_true rfl) rfl (to_rc rfl rfl rfl (g_o hG28 rfl)) rfl (to_in (pc := 0) rw_188_0 rfl (s_i2l (pc := 1) rw_188_1 (fun l32 e33 => to_an (pc := 2) rw_188_2 rfl (s_gR (pc := 3) rw_188_3 hG28 rfl (v := 82) rfl (to_an (pc := 6) rw_188_6 rfl (s_gR (pc := 7) rw_188_7 hG28 rfl (v := 86) rfl ?_)))))))))))
          refine to_in (pc := 10) rw_188_10 rfl (s_ialk (pc := 11) rw_188_11 hG28 rfl (n := 24) rfl rfl (A := w.toInt) rfl (by omega) (by omega) (v := v20) (F_n F27 (show ¬ (86 < 0) by decide) w_21) (s_ialk (pc := 12) rw_188_12 hG28 rfl (n := 16) rfl rfl (A := v20.toInt) rfl (by omega) (by omega) (v := v22) (F_n F27 (show ¬ (82 < 0) by decide) w_23) (s_anyS (pc := 13) rw_188_13 (fun _ _ => rfl) (fun l38 => to_rl (pc := 14) rw_188_14 (s_v (pc := 146) rw_237_146 (dp0 hd (by decide)) (ls0 := [.ref 77, .int w, .long l38, .null, .null, .null]) rfl (Nat.le_of_ble_eq_true rfl) (Nat.le_of_ble_eq_true rfl) rfl (to_rc rfl rfl rfl (g_o hG28 rfl)) rfl (C_236 hX (dp1 hd (by decide)) hG28 (w := w) (x := l38) (fun r39 M42 hG41 F40 => ?_)))))))
          have F43 := FR.c F30 F40 tg_356
          refine to_go (pc := 149) rw_237_149 (to_is (pc := 153) rw_237_153 (ls2 := [.ref 77, u1, .int w, .int x3, .int x4, .int x5, .int x6, .int x7, .int x8, .int r26, .int r39, u11, u12, u13]) rfl rfl (to_i (pc := 155) rw_237_155 rfl (to_c (pc := 157) rw_237_157 (x := (-1 : Int32)) rfl rfl (b_ceq_t (pc := 158) rw_237_158 (A := x5.toInt) (B := -1) rfl rfl (by omega) (to_c (pc := 196) rw_237_196 (x := (1 : Int32)) rfl rfl (to_go (pc := 197) rw_237_197 (to_is (pc := 201) rw_237_201 (ls2 := [.ref 77, u1, .int w, .int x3, .int x4, .int x5, .int x6, .int x7, .int x8, .int r26, .int r39, .int (1 : Int32), u12, u13]) rfl rfl (to_i (pc := 203) rw_237_203 rfl (b_ieq_f (pc := 205) rw_237_205 (A := 1) rfl (by decide) (to_i (pc := 208) rw_237_208 rfl (to_is (pc := 210) rw_237_210 (ls2 := [.ref 77, u1, .int w, .int x3, .int x4, .int x8, .int x6, .int x7, .int x8, .int r26, .int r39, .int (1 : Int32), u12, u13]) rfl rfl ?_)))))))))))
          refine to_i (pc := 212) rw_237_212 rfl (to_is (pc := 214) rw_237_214 (ls2 := [.ref 77, u1, .int w, .int x3, .int x4, .int x8, .int r26, .int x7, .int x8, .int r26, .int r39, .int (1 : Int32), u12, u13]) rfl rfl (to_i (pc := 216) rw_237_216 rfl (to_is (pc := 218) rw_237_218 (ls2 := [.ref 77, u1, .int w, .int x3, .int x4, .int x8, .int r26, .int r39, .int x8, .int r26, .int r39, .int (1 : Int32), u12, u13]) rfl rfl (to_i (pc := 220) rw_237_220 rfl (to_c (pc := 222) rw_237_222 (x := (1 : Int32)) rfl rfl (s_sub (pc := 223) rw_237_223 (A := x4.toInt) (B := 1) rfl rfl (by omega) (fun v44 e45 => to_is (pc := 224) rw_237_224 (ls2 := [.ref 77, u1, .int w, .int x3, .int x4, .int x8, .int r26, .int r39, .int x8, .int r26, .int r39, .int (1 : Int32), .int v44, u13]) rfl rfl ?_)))))))
          have t_46 : (M42.2.1 83 (x3.toInt).toNat).toInt = (N.2.1 83 (x3.toInt).toNat).toInt := congrArg Int32.toInt (F_n F40 (show ¬ (83 < 0) by decide) (F_n F27 (show ¬ (83 < 0) by decide) rfl))
          have t_47 : (M42.2.1 82 (x3.toInt).toNat).toInt = (N.2.1 82 (x3.toInt).toNat).toInt := congrArg Int32.toInt (F_n F40 (show ¬ (82 < 0) by decide) (F_n F27 (show ¬ (82 < 0) by decide) rfl))
          have t_48 : (M42.2.1 82 (x3.toInt).toNat).toInt = (N.2.1 82 (x3.toInt).toNat).toInt := congrArg Int32.toInt (F_n F40 (show ¬ (82 < 0) by decide) (F_n F27 (show ¬ (82 < 0) by decide) rfl))
          have t_49 : (M42.2.1 83 (x3.toInt).toNat).toInt = (N.2.1 83 (x3.toInt).toNat).toInt := congrArg Int32.toInt (F_n F40 (show ¬ (83 < 0) by decide) (F_n F27 (show ¬ (83 < 0) by decide) rfl))
          have s_50 : PV M42 (x4.toInt).toNat = PV N (x4.toInt).toNat := PV_f _ (fun i z => (F_n F40 (show ¬ (118 < 0) by decide) (F_n F27 (show ¬ (118 < 0) by decide) rfl)))
          exact ih.2.2.1 M42 (u1) x3 x4 x8 r26 r39 (.int x8) (.int r26) (.int r39) (.int (1 : Int32)) v44 (u13) hG41 F43 (by omega) (by omega) (by omega) (by omega) (by omega) (by omega) (by omega) (by omega) (by omega) (by omega) (fun i z => by have z2 := g10 i z; rw [(F_n F40 (show ¬ (118 < 0) by decide) (F_n F27 (show ¬ (118 < 0) by decide) rfl))]; omega) (by omega)
        · refine to_i (pc := 130) rw_237_130 rfl (to_i (pc := 132) rw_237_132 rfl (b_cgt (pc := 134) rw_237_134 (A := r26.toInt) (B := x6.toInt) rfl rfl (fun h51 => ?_) (fun h51 => ?_)))
          · refine to_c (pc := 152) rw_237_152 (x := (0 : Int32)) rfl rfl (to_is (pc := 153) rw_237_153 (ls2 := [.ref 77, u1, .int w, .int x3, .int x4, .int x5, .int x6, .int x7, .int x8, .int r26, .int (0 : Int32), u11, u12, u13]) rfl rfl (to_i (pc := 155) rw_237_155 rfl (to_c (pc := 157) rw_237_157 (x := (-1 : Int32)) rfl rfl (b_ceq (pc := 158) rw_237_158 (A := x5.toInt) (B := -1) rfl rfl (fun h52 => ?_) (fun h52 => ?_)))))
            · refine to_c (pc := 196) rw_237_196 (x := (1 : Int32)) rfl rfl (to_go (pc := 197) rw_237_197 (to_is (pc := 201) rw_237_201 (ls2 := [.ref 77, u1, .int w, .int x3, .int x4, .int x5, .int x6, .int x7, .int x8, .int r26, .int (0 : Int32), .int (1 : Int32), u12, u13]) rfl rfl (to_i (pc := 203) rw_237_203 rfl (b_ieq_f (pc := 205) rw_237_205 (A := 1) rfl (by decide) (to_i (pc := 208) rw_237_208 rfl (to_is (pc := 210) rw_237_210 (ls2 := [.ref 77, u1, .int w, .int x3, .int x4, .int x8, .int x6, .int x7, .int x8, .int r26, .int (0 : Int32), .int (1 : Int32), u12, u13]) rfl rfl (to_i (pc := 212) rw_237_212 rfl (to_is (pc := 214) rw_237_214 (ls2 := [.ref 77, u1, .int w, .int x3, .int x4, .int x8, .int r26, .int x7, .int x8, .int r26, .int (0 : Int32), .int (1 : Int32), u12, u13]) rfl rfl (to_i (pc := 216) rw_237_216 rfl (to_is (pc := 218) rw_237_218 (ls2 := [.ref 77, u1, .int w, .int x3, .int x4, .int x8, .int r26, .int (0 : Int32), .int x8, .int r26, .int (0 : Int32), .int (1 : Int32), u12, u13]) rfl rfl (to_i (pc := 220) rw_237_220 rfl ?_)))))))))))
              refine to_c (pc := 222) rw_237_222 (x := (1 : Int32)) rfl rfl (s_sub (pc := 223) rw_237_223 (A := x4.toInt) (B := 1) rfl rfl (by omega) (fun v53 e54 => to_is (pc := 224) rw_237_224 (ls2 := [.ref 77, u1, .int w, .int x3, .int x4, .int x8, .int r26, .int (0 : Int32), .int x8, .int r26, .int (0 : Int32), .int (1 : Int32), .int v53, u13]) rfl rfl ?_))
              have k_55 : (0 : Int32).toInt = 0 := rfl
              have t_56 : (M29.2.1 83 (x3.toInt).toNat).toInt = (N.2.1 83 (x3.toInt).toNat).toInt := congrArg Int32.toInt (F_n F27 (show ¬ (83 < 0) by decide) rfl)
              have t_57 : (M29.2.1 82 (x3.toInt).toNat).toInt = (N.2.1 82 (x3.toInt).toNat).toInt := congrArg Int32.toInt (F_n F27 (show ¬ (82 < 0) by decide) rfl)
              have t_58 : (M29.2.1 82 (x3.toInt).toNat).toInt = (N.2.1 82 (x3.toInt).toNat).toInt := congrArg Int32.toInt (F_n F27 (show ¬ (82 < 0) by decide) rfl)
              have t_59 : (M29.2.1 83 (x3.toInt).toNat).toInt = (N.2.1 83 (x3.toInt).toNat).toInt := congrArg Int32.toInt (F_n F27 (show ¬ (83 < 0) by decide) rfl)
              have s_60 : PV M29 (x4.toInt).toNat = PV N (x4.toInt).toNat := PV_f _ (fun i z => (F_n F27 (show ¬ (118 < 0) by decide) rfl))
              exact ih.2.2.1 M29 (u1) x3 x4 x8 r26 (0 : Int32) (.int x8) (.int r26) (.int (0 : Int32)) (.int (1 : Int32)) v53 (u13) hG28 F30 (by omega) (by omega) (by omega) (by omega) (by omega) (by omega) (by omega) (by omega) (by omega) (by omega) (fun i z => by have z2 := g10 i z; rw [(F_n F27 (show ¬ (118 < 0) by decide) rfl)]; omega) (by omega)
            · refine to_i (pc := 161) rw_237_161 rfl (to_i (pc := 163) rw_237_163 rfl (b_clt (pc := 165) rw_237_165 (A := r26.toInt) (B := x6.toInt) rfl rfl (fun h61 => ?_) (fun h61 => ?_)))
              · refine to_c (pc := 196) rw_237_196 (x := (1 : Int32)) rfl rfl (to_go (pc := 197) rw_237_197 (to_is (pc := 201) rw_237_201 (ls2 := [.ref 77, u1, .int w, .int x3, .int x4, .int x5, .int x6, .int x7, .int x8, .int r26, .int (0 : Int32), .int (1 : Int32), u12, u13]) rfl rfl (to_i (pc := 203) rw_237_203 rfl (b_ieq_f (pc := 205) rw_237_205 (A := 1) rfl (by decide) (to_i (pc := 208) rw_237_208 rfl (to_is (pc := 210) rw_237_210 (ls2 := [.ref 77, u1, .int w, .int x3, .int x4, .int x8, .int x6, .int x7, .int x8, .int r26, .int (0 : Int32), .int (1 : Int32), u12, u13]) rfl rfl (to_i (pc := 212) rw_237_212 rfl (to_is (pc := 214) rw_237_214 (ls2 := [.ref 77, u1, .int w, .int x3, .int x4, .int x8, .int r26, .int x7, .int x8, .int r26, .int (0 : Int32), .int (1 : Int32), u12, u13]) rfl rfl (to_i (pc := 216) rw_237_216 rfl (to_is (pc := 218) rw_237_218 (ls2 := [.ref 77, u1, .int w, .int x3, .int x4, .int x8, .int r26, .int (0 : Int32), .int x8, .int r26, .int (0 : Int32), .int (1 : Int32), u12, u13]) rfl rfl (to_i (pc := 220) rw_237_220 rfl ?_)))))))))))
                refine to_c (pc := 222) rw_237_222 (x := (1 : Int32)) rfl rfl (s_sub (pc := 223) rw_237_223 (A := x4.toInt) (B := 1) rfl rfl (by omega) (fun v62 e63 => to_is (pc := 224) rw_237_224 (ls2 := [.ref 77, u1, .int w, .int x3, .int x4, .int x8, .int r26, .int (0 : Int32), .int x8, .int r26, .int (0 : Int32), .int (1 : Int32), .int v62, u13]) rfl rfl ?_))
                have k_64 : (0 : Int32).toInt = 0 := rfl
                have t_65 : (M29.2.1 83 (x3.toInt).toNat).toInt = (N.2.1 83 (x3.toInt).toNat).toInt := congrArg Int32.toInt (F_n F27 (show ¬ (83 < 0) by decide) rfl)
                have t_66 : (M29.2.1 82 (x3.toInt).toNat).toInt = (N.2.1 82 (x3.toInt).toNat).toInt := congrArg Int32.toInt (F_n F27 (show ¬ (82 < 0) by decide) rfl)
                have t_67 : (M29.2.1 82 (x3.toInt).toNat).toInt = (N.2.1 82 (x3.toInt).toNat).toInt := congrArg Int32.toInt (F_n F27 (show ¬ (82 < 0) by decide) rfl)
                have t_68 : (M29.2.1 83 (x3.toInt).toNat).toInt = (N.2.1 83 (x3.toInt).toNat).toInt := congrArg Int32.toInt (F_n F27 (show ¬ (83 < 0) by decide) rfl)
                have s_69 : PV M29 (x4.toInt).toNat = PV N (x4.toInt).toNat := PV_f _ (fun i z => (F_n F27 (show ¬ (118 < 0) by decide) rfl))
                exact ih.2.2.1 M29 (u1) x3 x4 x8 r26 (0 : Int32) (.int x8) (.int r26) (.int (0 : Int32)) (.int (1 : Int32)) v62 (u13) hG28 F30 (by omega) (by omega) (by omega) (by omega) (by omega) (by omega) (by omega) (by omega) (by omega) (by omega) (fun i z => by have z2 := g10 i z; rw [(F_n F27 (show ¬ (118 < 0) by decide) rfl)]; omega) (by omega)
              · refine to_i (pc := 168) rw_237_168 rfl (to_i (pc := 170) rw_237_170 rfl (b_cne (pc := 172) rw_237_172 (A := r26.toInt) (B := x6.toInt) rfl rfl (fun h70 => ?_) (fun h70 => ?_)))
                · refine to_c (pc := 200) rw_237_200 (x := (0 : Int32)) rfl rfl (to_is (pc := 201) rw_237_201 (ls2 := [.ref 77, u1, .int w, .int x3, .int x4, .int x5, .int x6, .int x7, .int x8, .int r26, .int (0 : Int32), .int (0 : Int32), u12, u13]) rfl rfl (to_i (pc := 203) rw_237_203 rfl (b_ieq_t (pc := 205) rw_237_205 (A := 0) rfl (by decide) (to_i (pc := 220) rw_237_220 rfl (to_c (pc := 222) rw_237_222 (x := (1 : Int32)) rfl rfl (s_sub (pc := 223) rw_237_223 (A := x4.toInt) (B := 1) rfl rfl (by omega) (fun v71 e72 => to_is (pc := 224) rw_237_224 (ls2 := [.ref 77, u1, .int w, .int x3, .int x4, .int x5, .int x6, .int x7, .int x8, .int r26, .int (0 : Int32), .int (0 : Int32), .int v71, u13]) rfl rfl ?_)))))))
                  have t_73 : (M29.2.1 83 (x3.toInt).toNat).toInt = (N.2.1 83 (x3.toInt).toNat).toInt := congrArg Int32.toInt (F_n F27 (show ¬ (83 < 0) by decide) rfl)
                  have t_74 : (M29.2.1 82 (x3.toInt).toNat).toInt = (N.2.1 82 (x3.toInt).toNat).toInt := congrArg Int32.toInt (F_n F27 (show ¬ (82 < 0) by decide) rfl)
                  have t_75 : (M29.2.1 82 (x3.toInt).toNat).toInt = (N.2.1 82 (x3.toInt).toNat).toInt := congrArg Int32.toInt (F_n F27 (show ¬ (82 < 0) by decide) rfl)
                  have t_76 : (M29.2.1 83 (x3.toInt).toNat).toInt = (N.2.1 83 (x3.toInt).toNat).toInt := congrArg Int32.toInt (F_n F27 (show ¬ (83 < 0) by decide) rfl)
                  have s_77 : PV M29 (x4.toInt).toNat = PV N (x4.toInt).toNat := PV_f _ (fun i z => (F_n F27 (show ¬ (118 < 0) by decide) rfl))
                  exact ih.2.2.1 M29 (u1) x3 x4 x5 x6 x7 (.int x8) (.int r26) (.int (0 : Int32)) (.int (0 : Int32)) v71 (u13) hG28 F30 (by omega) (by omega) (by omega) (by omega) (by omega) (by omega) (by omega) (by omega) (by omega) (by omega) (fun i z => by have z2 := g10 i z; rw [(F_n F27 (show ¬ (118 < 0) by decide) rfl)]; omega) (by omega)
                · refine to_i (pc := 175) rw_237_175 rfl (to_i (pc := 177) rw_237_177 rfl (b_clt (pc := 179) rw_237_179 (A := 0) (B := x7.toInt) rfl rfl (fun h78 => ?_) (fun h78 => ?_)))
                  · refine to_c (pc := 196) rw_237_196 (x := (1 : Int32)) rfl rfl (to_go (pc := 197) rw_237_197 (to_is (pc := 201) rw_237_201 (ls2 := [.ref 77, u1, .int w, .int x3, .int x4, .int x5, .int x6, .int x7, .int x8, .int r26, .int (0 : Int32), .int (1 : Int32), u12, u13]) rfl rfl (to_i (pc := 203) rw_237_203 rfl (b_ieq_f (pc := 205) rw_237_205 (A := 1) rfl (by decide) (to_i (pc := 208) rw_237_208 rfl (to_is (pc := 210) rw_237_210 (ls2 := [.ref 77, u1, .int w, .int x3, .int x4, .int x8, .int x6, .int x7, .int x8, .int r26, .int (0 : Int32), .int (1 : Int32), u12, u13]) rfl rfl (to_i (pc := 212) rw_237_212 rfl (to_is (pc := 214) rw_237_214 (ls2 := [.ref 77, u1, .int w, .int x3, .int x4, .int x8, .int r26, .int x7, .int x8, .int r26, .int (0 : Int32), .int (1 : Int32), u12, u13]) rfl rfl (to_i (pc := 216) rw_237_216 rfl (to_is (pc := 218) rw_237_218 (ls2 := [.ref 77, u1, .int w, .int x3, .int x4, .int x8, .int r26, .int (0 : Int32), .int x8, .int r26, .int (0 : Int32), .int (1 : Int32), u12, u13]) rfl rfl (to_i (pc := 220) rw_237_220 rfl ?_)))))))))))
                    refine to_c (pc := 222) rw_237_222 (x := (1 : Int32)) rfl rfl (s_sub (pc := 223) rw_237_223 (A := x4.toInt) (B := 1) rfl rfl (by omega) (fun v79 e80 => to_is (pc := 224) rw_237_224 (ls2 := [.ref 77, u1, .int w, .int x3, .int x4, .int x8, .int r26, .int (0 : Int32), .int x8, .int r26, .int (0 : Int32), .int (1 : Int32), .int v79, u13]) rfl rfl ?_))
                    have k_81 : (0 : Int32).toInt = 0 := rfl
                    have t_82 : (M29.2.1 83 (x3.toInt).toNat).toInt = (N.2.1 83 (x3.toInt).toNat).toInt := congrArg Int32.toInt (F_n F27 (show ¬ (83 < 0) by decide) rfl)
                    have t_83 : (M29.2.1 82 (x3.toInt).toNat).toInt = (N.2.1 82 (x3.toInt).toNat).toInt := congrArg Int32.toInt (F_n F27 (show ¬ (82 < 0) by decide) rfl)
                    have t_84 : (M29.2.1 82 (x3.toInt).toNat).toInt = (N.2.1 82 (x3.toInt).toNat).toInt := congrArg Int32.toInt (F_n F27 (show ¬ (82 < 0) by decide) rfl)
                    have t_85 : (M29.2.1 83 (x3.toInt).toNat).toInt = (N.2.1 83 (x3.toInt).toNat).toInt := congrArg Int32.toInt (F_n F27 (show ¬ (83 < 0) by decide) rfl)
                    have s_86 : PV M29 (x4.toInt).toNat = PV N (x4.toInt).toNat := PV_f _ (fun i z => (F_n F27 (show ¬ (118 < 0) by decide) rfl))
                    exact ih.2.2.1 M29 (u1) x3 x4 x8 r26 (0 : Int32) (.int x8) (.int r26) (.int (0 : Int32)) (.int (1 : Int32)) v79 (u13) hG28 F30 (by omega) (by omega) (by omega) (by omega) (by omega) (by omega) (by omega) (by omega) (by omega) (by omega) (fun i z => by have z2 := g10 i z; rw [(F_n F27 (show ¬ (118 < 0) by decide) rfl)]; omega) (by omega)
                  · refine to_i (pc := 182) rw_237_182 rfl (to_i (pc := 184) rw_237_184 rfl (b_cne (pc := 186) rw_237_186 (A := 0) (B := x7.toInt) rfl rfl (fun h87 => ?_) (fun h87 => ?_)))
                    · refine to_c (pc := 200) rw_237_200 (x := (0 : Int32)) rfl rfl (to_is (pc := 201) rw_237_201 (ls2 := [.ref 77, u1, .int w, .int x3, .int x4, .int x5, .int x6, .int x7, .int x8, .int r26, .int (0 : Int32), .int (0 : Int32), u12, u13]) rfl rfl (to_i (pc := 203) rw_237_203 rfl (b_ieq_t (pc := 205) rw_237_205 (A := 0) rfl (by decide) (to_i (pc := 220) rw_237_220 rfl (to_c (pc := 222) rw_237_222 (x := (1 : Int32)) rfl rfl (s_sub (pc := 223) rw_237_223 (A := x4.toInt) (B := 1) rfl rfl (by omega) (fun v88 e89 => to_is (pc := 224) rw_237_224 (ls2 := [.ref 77, u1, .int w, .int x3, .int x4, .int x5, .int x6, .int x7, .int x8, .int r26, .int (0 : Int32), .int (0 : Int32), .int v88, u13]) rfl rfl ?_)))))))
                      have t_90 : (M29.2.1 83 (x3.toInt).toNat).toInt = (N.2.1 83 (x3.toInt).toNat).toInt := congrArg Int32.toInt (F_n F27 (show ¬ (83 < 0) by decide) rfl)
                      have t_91 : (M29.2.1 82 (x3.toInt).toNat).toInt = (N.2.1 82 (x3.toInt).toNat).toInt := congrArg Int32.toInt (F_n F27 (show ¬ (82 < 0) by decide) rfl)
                      have t_92 : (M29.2.1 82 (x3.toInt).toNat).toInt = (N.2.1 82 (x3.toInt).toNat).toInt := congrArg Int32.toInt (F_n F27 (show ¬ (82 < 0) by decide) rfl)
                      have t_93 : (M29.2.1 83 (x3.toInt).toNat).toInt = (N.2.1 83 (x3.toInt).toNat).toInt := congrArg Int32.toInt (F_n F27 (show ¬ (83 < 0) by decide) rfl)
                      have s_94 : PV M29 (x4.toInt).toNat = PV N (x4.toInt).toNat := PV_f _ (fun i z => (F_n F27 (show ¬ (118 < 0) by decide) rfl))
                      exact ih.2.2.1 M29 (u1) x3 x4 x5 x6 x7 (.int x8) (.int r26) (.int (0 : Int32)) (.int (0 : Int32)) v88 (u13) hG28 F30 (by omega) (by omega) (by omega) (by omega) (by omega) (by omega) (by omega) (by omega) (by omega) (by omega) (fun i z => by have z2 := g10 i z; rw [(F_n F27 (show ¬ (118 < 0) by decide) rfl)]; omega) (by omega)
                    · refine to_i (pc := 189) rw_237_189 rfl (to_i (pc := 191) rw_237_191 rfl (b_cge (pc := 193) rw_237_193 (A := x8.toInt) (B := x5.toInt) rfl rfl (fun h95 => ?_) (fun h95 => ?_)))
                      · refine to_c (pc := 200) rw_237_200 (x := (0 : Int32)) rfl rfl (to_is (pc := 201) rw_237_201 (ls2 := [.ref 77, u1, .int w, .int x3, .int x4, .int x5, .int x6, .int x7, .int x8, .int r26, .int (0 : Int32), .int (0 : Int32), u12, u13]) rfl rfl (to_i (pc := 203) rw_237_203 rfl (b_ieq_t (pc := 205) rw_237_205 (A := 0) rfl (by decide) (to_i (pc := 220) rw_237_220 rfl (to_c (pc := 222) rw_237_222 (x := (1 : Int32)) rfl rfl (s_sub (pc := 223) rw_237_223 (A := x4.toInt) (B := 1) rfl rfl (by omega) (fun v96 e97 => to_is (pc := 224) rw_237_224 (ls2 := [.ref 77, u1, .int w, .int x3, .int x4, .int x5, .int x6, .int x7, .int x8, .int r26, .int (0 : Int32), .int (0 : Int32), .int v96, u13]) rfl rfl ?_)))))))
                        have t_98 : (M29.2.1 83 (x3.toInt).toNat).toInt = (N.2.1 83 (x3.toInt).toNat).toInt := congrArg Int32.toInt (F_n F27 (show ¬ (83 < 0) by decide) rfl)
                        have t_99 : (M29.2.1 82 (x3.toInt).toNat).toInt = (N.2.1 82 (x3.toInt).toNat).toInt := congrArg Int32.toInt (F_n F27 (show ¬ (82 < 0) by decide) rfl)
                        have t_100 : (M29.2.1 82 (x3.toInt).toNat).toInt = (N.2.1 82 (x3.toInt).toNat).toInt := congrArg Int32.toInt (F_n F27 (show ¬ (82 < 0) by decide) rfl)
                        have t_101 : (M29.2.1 83 (x3.toInt).toNat).toInt = (N.2.1 83 (x3.toInt).toNat).toInt := congrArg Int32.toInt (F_n F27 (show ¬ (83 < 0) by decide) rfl)
                        have s_102 : PV M29 (x4.toInt).toNat = PV N (x4.toInt).toNat := PV_f _ (fun i z => (F_n F27 (show ¬ (118 < 0) by decide) rfl))
                        exact ih.2.2.1 M29 (u1) x3 x4 x5 x6 x7 (.int x8) (.int r26) (.int (0 : Int32)) (.int (0 : Int32)) v96 (u13) hG28 F30 (by omega) (by omega) (by omega) (by omega) (by omega) (by omega) (by omega) (by omega) (by omega) (by omega) (fun i z => by have z2 := g10 i z; rw [(F_n F27 (show ¬ (118 < 0) by decide) rfl)]; omega) (by omega)
                      · refine to_c (pc := 196) rw_237_196 (x := (1 : Int32)) rfl rfl (to_go (pc := 197) rw_237_197 (to_is (pc := 201) rw_237_201 (ls2 := [.ref 77, u1, .int w, .int x3, .int x4, .int x5, .int x6, .int x7, .int x8, .int r26, .int (0 : Int32), .int (1 : Int32), u12, u13]) rfl rfl (to_i (pc := 203) rw_237_203 rfl (b_ieq_f (pc := 205) rw_237_205 (A := 1) rfl (by decide) (to_i (pc := 208) rw_237_208 rfl (to_is (pc := 210) rw_237_210 (ls2 := [.ref 77, u1, .int w, .int x3, .int x4, .int x8, .int x6, .int x7, .int x8, .int r26, .int (0 : Int32), .int (1 : Int32), u12, u13]) rfl rfl (to_i (pc := 212) rw_237_212 rfl (to_is (pc := 214) rw_237_214 (ls2 := [.ref 77, u1, .int w, .int x3, .int x4, .int x8, .int r26, .int x7, .int x8, .int r26, .int (0 : Int32), .int (1 : Int32), u12, u13]) rfl rfl (to_i (pc := 216) rw_237_216 rfl (to_is (pc := 218) rw_237_218 (ls2 := [.ref 77, u1, .int w, .int x3, .int x4, .int x8, .int r26, .int (0 : Int32), .int x8, .int r26, .int (0 : Int32), .int (1 : Int32), u12, u13]) rfl rfl (to_i (pc := 220) rw_237_220 rfl ?_)))))))))))
                        refine to_c (pc := 222) rw_237_222 (x := (1 : Int32)) rfl rfl (s_sub (pc := 223) rw_237_223 (A := x4.toInt) (B := 1) rfl rfl (by omega) (fun v103 e104 => to_is (pc := 224) rw_237_224 (ls2 := [.ref 77, u1, .int w, .int x3, .int x4, .int x8, .int r26, .int (0 : Int32), .int x8, .int r26, .int (0 : Int32), .int (1 : Int32), .int v103, u13]) rfl rfl ?_))
                        have k_105 : (0 : Int32).toInt = 0 := rfl
                        have t_106 : (M29.2.1 83 (x3.toInt).toNat).toInt = (N.2.1 83 (x3.toInt).toNat).toInt := congrArg Int32.toInt (F_n F27 (show ¬ (83 < 0) by decide) rfl)
                        have t_107 : (M29.2.1 82 (x3.toInt).toNat).toInt = (N.2.1 82 (x3.toInt).toNat).toInt := congrArg Int32.toInt (F_n F27 (show ¬ (82 < 0) by decide) rfl)
                        have t_108 : (M29.2.1 82 (x3.toInt).toNat).toInt = (N.2.1 82 (x3.toInt).toNat).toInt := congrArg Int32.toInt (F_n F27 (show ¬ (82 < 0) by decide) rfl)
                        have t_109 : (M29.2.1 83 (x3.toInt).toNat).toInt = (N.2.1 83 (x3.toInt).toNat).toInt := congrArg Int32.toInt (F_n F27 (show ¬ (83 < 0) by decide) rfl)
                        have s_110 : PV M29 (x4.toInt).toNat = PV N (x4.toInt).toNat := PV_f _ (fun i z => (F_n F27 (show ¬ (118 < 0) by decide) rfl))
                        exact ih.2.2.1 M29 (u1) x3 x4 x8 r26 (0 : Int32) (.int x8) (.int r26) (.int (0 : Int32)) (.int (1 : Int32)) v103 (u13) hG28 F30 (by omega) (by omega) (by omega) (by omega) (by omega) (by omega) (by omega) (by omega) (by omega) (by omega) (fun i z => by have z2 := g10 i z; rw [(F_n F27 (show ¬ (118 < 0) by decide) rfl)]; omega) (by omega)
          · refine to_an (pc := 137) rw_237_137 rfl (to_in (pc := 138) rw_237_138 rfl (to_an (pc := 139) rw_237_139 rfl (to_in (pc := 140) rw_237_140 rfl (to_i (pc := 141) rw_237_141 rfl (s_v (pc := 143) rw_237_143 (dp0 hd (by decide)) (ls0 := [.ref 77, .int w, .int x8]) rfl (Nat.le_of_ble_eq_true rfl) (Nat.le_of_ble_eq_true rfl) rfl (to_rc rfl rfl rfl (g_o hG28 rfl)) rfl (to_in (pc := 0) rw_188_0 rfl (s_i2l (pc := 1) rw_188_1 (fun l111 e112 => to_an (pc := 2) rw_188_2 rfl (s_gR (pc := 3) rw_188_3 hG28 rfl (v := 82) rfl (to_an (pc := 6) rw_188_6 rfl (s_gR (pc := 7) rw_188_7 hG28 rfl (v := 86) rfl ?_)))))))))))
            refine to_in (pc := 10) rw_188_10 rfl (s_ialk (pc := 11) rw_188_11 hG28 rfl (n := 24) rfl rfl (A := w.toInt) rfl (by omega) (by omega) (v := v20) (F_n F27 (show ¬ (86 < 0) by decide) w_21) (s_ialk (pc := 12) rw_188_12 hG28 rfl (n := 16) rfl rfl (A := v20.toInt) rfl (by omega) (by omega) (v := v22) (F_n F27 (show ¬ (82 < 0) by decide) w_23) (s_anyS (pc := 13) rw_188_13 (fun _ _ => rfl) (fun l117 => to_rl (pc := 14) rw_188_14 (s_v (pc := 146) rw_237_146 (dp0 hd (by decide)) (ls0 := [.ref 77, .int w, .long l117, .null, .null, .null]) rfl (Nat.le_of_ble_eq_true rfl) (Nat.le_of_ble_eq_true rfl) rfl (to_rc rfl rfl rfl (g_o hG28 rfl)) rfl (C_236 hX (dp1 hd (by decide)) hG28 (w := w) (x := l117) (fun r118 M121 hG120 F119 => ?_)))))))
            have F122 := FR.c F30 F119 tg_356
            refine to_go (pc := 149) rw_237_149 (to_is (pc := 153) rw_237_153 (ls2 := [.ref 77, u1, .int w, .int x3, .int x4, .int x5, .int x6, .int x7, .int x8, .int r26, .int r118, u11, u12, u13]) rfl rfl (to_i (pc := 155) rw_237_155 rfl (to_c (pc := 157) rw_237_157 (x := (-1 : Int32)) rfl rfl (b_ceq (pc := 158) rw_237_158 (A := x5.toInt) (B := -1) rfl rfl (fun h123 => ?_) (fun h123 => ?_)))))
            · refine to_c (pc := 196) rw_237_196 (x := (1 : Int32)) rfl rfl (to_go (pc := 197) rw_237_197 (to_is (pc := 201) rw_237_201 (ls2 := [.ref 77, u1, .int w, .int x3, .int x4, .int x5, .int x6, .int x7, .int x8, .int r26, .int r118, .int (1 : Int32), u12, u13]) rfl rfl (to_i (pc := 203) rw_237_203 rfl (b_ieq_f (pc := 205) rw_237_205 (A := 1) rfl (by decide) (to_i (pc := 208) rw_237_208 rfl (to_is (pc := 210) rw_237_210 (ls2 := [.ref 77, u1, .int w, .int x3, .int x4, .int x8, .int x6, .int x7, .int x8, .int r26, .int r118, .int (1 : Int32), u12, u13]) rfl rfl (to_i (pc := 212) rw_237_212 rfl (to_is (pc := 214) rw_237_214 (ls2 := [.ref 77, u1, .int w, .int x3, .int x4, .int x8, .int r26, .int x7, .int x8, .int r26, .int r118, .int (1 : Int32), u12, u13]) rfl rfl (to_i (pc := 216) rw_237_216 rfl (to_is (pc := 218) rw_237_218 (ls2 := [.ref 77, u1, .int w, .int x3, .int x4, .int x8, .int r26, .int r118, .int x8, .int r26, .int r118, .int (1 : Int32), u12, u13]) rfl rfl (to_i (pc := 220) rw_237_220 rfl ?_)))))))))))
              refine to_c (pc := 222) rw_237_222 (x := (1 : Int32)) rfl rfl (s_sub (pc := 223) rw_237_223 (A := x4.toInt) (B := 1) rfl rfl (by omega) (fun v124 e125 => to_is (pc := 224) rw_237_224 (ls2 := [.ref 77, u1, .int w, .int x3, .int x4, .int x8, .int r26, .int r118, .int x8, .int r26, .int r118, .int (1 : Int32), .int v124, u13]) rfl rfl ?_))
              have t_126 : (M121.2.1 83 (x3.toInt).toNat).toInt = (N.2.1 83 (x3.toInt).toNat).toInt := congrArg Int32.toInt (F_n F119 (show ¬ (83 < 0) by decide) (F_n F27 (show ¬ (83 < 0) by decide) rfl))
              have t_127 : (M121.2.1 82 (x3.toInt).toNat).toInt = (N.2.1 82 (x3.toInt).toNat).toInt := congrArg Int32.toInt (F_n F119 (show ¬ (82 < 0) by decide) (F_n F27 (show ¬ (82 < 0) by decide) rfl))
              have t_128 : (M121.2.1 82 (x3.toInt).toNat).toInt = (N.2.1 82 (x3.toInt).toNat).toInt := congrArg Int32.toInt (F_n F119 (show ¬ (82 < 0) by decide) (F_n F27 (show ¬ (82 < 0) by decide) rfl))
              have t_129 : (M121.2.1 83 (x3.toInt).toNat).toInt = (N.2.1 83 (x3.toInt).toNat).toInt := congrArg Int32.toInt (F_n F119 (show ¬ (83 < 0) by decide) (F_n F27 (show ¬ (83 < 0) by decide) rfl))
              have s_130 : PV M121 (x4.toInt).toNat = PV N (x4.toInt).toNat := PV_f _ (fun i z => (F_n F119 (show ¬ (118 < 0) by decide) (F_n F27 (show ¬ (118 < 0) by decide) rfl)))
              exact ih.2.2.1 M121 (u1) x3 x4 x8 r26 r118 (.int x8) (.int r26) (.int r118) (.int (1 : Int32)) v124 (u13) hG120 F122 (by omega) (by omega) (by omega) (by omega) (by omega) (by omega) (by omega) (by omega) (by omega) (by omega) (fun i z => by have z2 := g10 i z; rw [(F_n F119 (show ¬ (118 < 0) by decide) (F_n F27 (show ¬ (118 < 0) by decide) rfl))]; omega) (by omega)
            · refine to_i (pc := 161) rw_237_161 rfl (to_i (pc := 163) rw_237_163 rfl (b_clt (pc := 165) rw_237_165 (A := r26.toInt) (B := x6.toInt) rfl rfl (fun h131 => ?_) (fun h131 => ?_)))
              · refine to_c (pc := 196) rw_237_196 (x := (1 : Int32)) rfl rfl (to_go (pc := 197) rw_237_197 (to_is (pc := 201) rw_237_201 (ls2 := [.ref 77, u1, .int w, .int x3, .int x4, .int x5, .int x6, .int x7, .int x8, .int r26, .int r118, .int (1 : Int32), u12, u13]) rfl rfl (to_i (pc := 203) rw_237_203 rfl (b_ieq_f (pc := 205) rw_237_205 (A := 1) rfl (by decide) (to_i (pc := 208) rw_237_208 rfl (to_is (pc := 210) rw_237_210 (ls2 := [.ref 77, u1, .int w, .int x3, .int x4, .int x8, .int x6, .int x7, .int x8, .int r26, .int r118, .int (1 : Int32), u12, u13]) rfl rfl (to_i (pc := 212) rw_237_212 rfl (to_is (pc := 214) rw_237_214 (ls2 := [.ref 77, u1, .int w, .int x3, .int x4, .int x8, .int r26, .int x7, .int x8, .int r26, .int r118, .int (1 : Int32), u12, u13]) rfl rfl (to_i (pc := 216) rw_237_216 rfl (to_is (pc := 218) rw_237_218 (ls2 := [.ref 77, u1, .int w, .int x3, .int x4, .int x8, .int r26, .int r118, .int x8, .int r26, .int r118, .int (1 : Int32), u12, u13]) rfl rfl (to_i (pc := 220) rw_237_220 rfl ?_)))))))))))
                refine to_c (pc := 222) rw_237_222 (x := (1 : Int32)) rfl rfl (s_sub (pc := 223) rw_237_223 (A := x4.toInt) (B := 1) rfl rfl (by omega) (fun v132 e133 => to_is (pc := 224) rw_237_224 (ls2 := [.ref 77, u1, .int w, .int x3, .int x4, .int x8, .int r26, .int r118, .int x8, .int r26, .int r118, .int (1 : Int32), .int v132, u13]) rfl rfl ?_))
                have t_134 : (M121.2.1 83 (x3.toInt).toNat).toInt = (N.2.1 83 (x3.toInt).toNat).toInt := congrArg Int32.toInt (F_n F119 (show ¬ (83 < 0) by decide) (F_n F27 (show ¬ (83 < 0) by decide) rfl))
                have t_135 : (M121.2.1 82 (x3.toInt).toNat).toInt = (N.2.1 82 (x3.toInt).toNat).toInt := congrArg Int32.toInt (F_n F119 (show ¬ (82 < 0) by decide) (F_n F27 (show ¬ (82 < 0) by decide) rfl))
                have t_136 : (M121.2.1 82 (x3.toInt).toNat).toInt = (N.2.1 82 (x3.toInt).toNat).toInt := congrArg Int32.toInt (F_n F119 (show ¬ (82 < 0) by decide) (F_n F27 (show ¬ (82 < 0) by decide) rfl))
                have t_137 : (M121.2.1 83 (x3.toInt).toNat).toInt = (N.2.1 83 (x3.toInt).toNat).toInt := congrArg Int32.toInt (F_n F119 (show ¬ (83 < 0) by decide) (F_n F27 (show ¬ (83 < 0) by decide) rfl))
                have s_138 : PV M121 (x4.toInt).toNat = PV N (x4.toInt).toNat := PV_f _ (fun i z => (F_n F119 (show ¬ (118 < 0) by decide) (F_n F27 (show ¬ (118 < 0) by decide) rfl)))
                exact ih.2.2.1 M121 (u1) x3 x4 x8 r26 r118 (.int x8) (.int r26) (.int r118) (.int (1 : Int32)) v132 (u13) hG120 F122 (by omega) (by omega) (by omega) (by omega) (by omega) (by omega) (by omega) (by omega) (by omega) (by omega) (fun i z => by have z2 := g10 i z; rw [(F_n F119 (show ¬ (118 < 0) by decide) (F_n F27 (show ¬ (118 < 0) by decide) rfl))]; omega) (by omega)
              · refine to_i (pc := 168) rw_237_168 rfl (to_i (pc := 170) rw_237_170 rfl (b_cne (pc := 172) rw_237_172 (A := r26.toInt) (B := x6.toInt) rfl rfl (fun h139 => ?_) (fun h139 => ?_)))
                · refine to_c (pc := 200) rw_237_200 (x := (0 : Int32)) rfl rfl (to_is (pc := 201) rw_237_201 (ls2 := [.ref 77, u1, .int w, .int x3, .int x4, .int x5, .int x6, .int x7, .int x8, .int r26, .int r118, .int (0 : Int32), u12, u13]) rfl rfl (to_i (pc := 203) rw_237_203 rfl (b_ieq_t (pc := 205) rw_237_205 (A := 0) rfl (by decide) (to_i (pc := 220) rw_237_220 rfl (to_c (pc := 222) rw_237_222 (x := (1 : Int32)) rfl rfl (s_sub (pc := 223) rw_237_223 (A := x4.toInt) (B := 1) rfl rfl (by omega) (fun v140 e141 => to_is (pc := 224) rw_237_224 (ls2 := [.ref 77, u1, .int w, .int x3, .int x4, .int x5, .int x6, .int x7, .int x8, .int r26, .int r118, .int (0 : Int32), .int v140, u13]) rfl rfl ?_)))))))
                  have t_142 : (M121.2.1 83 (x3.toInt).toNat).toInt = (N.2.1 83 (x3.toInt).toNat).toInt := congrArg Int32.toInt (F_n F119 (show ¬ (83 < 0) by decide) (F_n F27 (show ¬ (83 < 0) by decide) rfl))
                  have t_143 : (M121.2.1 82 (x3.toInt).toNat).toInt = (N.2.1 82 (x3.toInt).toNat).toInt := congrArg Int32.toInt (F_n F119 (show ¬ (82 < 0) by decide) (F_n F27 (show ¬ (82 < 0) by decide) rfl))
                  have t_144 : (M121.2.1 82 (x3.toInt).toNat).toInt = (N.2.1 82 (x3.toInt).toNat).toInt := congrArg Int32.toInt (F_n F119 (show ¬ (82 < 0) by decide) (F_n F27 (show ¬ (82 < 0) by decide) rfl))
                  have t_145 : (M121.2.1 83 (x3.toInt).toNat).toInt = (N.2.1 83 (x3.toInt).toNat).toInt := congrArg Int32.toInt (F_n F119 (show ¬ (83 < 0) by decide) (F_n F27 (show ¬ (83 < 0) by decide) rfl))
                  have s_146 : PV M121 (x4.toInt).toNat = PV N (x4.toInt).toNat := PV_f _ (fun i z => (F_n F119 (show ¬ (118 < 0) by decide) (F_n F27 (show ¬ (118 < 0) by decide) rfl)))
                  exact ih.2.2.1 M121 (u1) x3 x4 x5 x6 x7 (.int x8) (.int r26) (.int r118) (.int (0 : Int32)) v140 (u13) hG120 F122 (by omega) (by omega) (by omega) (by omega) (by omega) (by omega) (by omega) (by omega) (by omega) (by omega) (fun i z => by have z2 := g10 i z; rw [(F_n F119 (show ¬ (118 < 0) by decide) (F_n F27 (show ¬ (118 < 0) by decide) rfl))]; omega) (by omega)
                · refine to_i (pc := 175) rw_237_175 rfl (to_i (pc := 177) rw_237_177 rfl (b_clt (pc := 179) rw_237_179 (A := r118.toInt) (B := x7.toInt) rfl rfl (fun h147 => ?_) (fun h147 => ?_)))
                  · refine to_c (pc := 196) rw_237_196 (x := (1 : Int32)) rfl rfl (to_go (pc := 197) rw_237_197 (to_is (pc := 201) rw_237_201 (ls2 := [.ref 77, u1, .int w, .int x3, .int x4, .int x5, .int x6, .int x7, .int x8, .int r26, .int r118, .int (1 : Int32), u12, u13]) rfl rfl (to_i (pc := 203) rw_237_203 rfl (b_ieq_f (pc := 205) rw_237_205 (A := 1) rfl (by decide) (to_i (pc := 208) rw_237_208 rfl (to_is (pc := 210) rw_237_210 (ls2 := [.ref 77, u1, .int w, .int x3, .int x4, .int x8, .int x6, .int x7, .int x8, .int r26, .int r118, .int (1 : Int32), u12, u13]) rfl rfl (to_i (pc := 212) rw_237_212 rfl (to_is (pc := 214) rw_237_214 (ls2 := [.ref 77, u1, .int w, .int x3, .int x4, .int x8, .int r26, .int x7, .int x8, .int r26, .int r118, .int (1 : Int32), u12, u13]) rfl rfl (to_i (pc := 216) rw_237_216 rfl (to_is (pc := 218) rw_237_218 (ls2 := [.ref 77, u1, .int w, .int x3, .int x4, .int x8, .int r26, .int r118, .int x8, .int r26, .int r118, .int (1 : Int32), u12, u13]) rfl rfl (to_i (pc := 220) rw_237_220 rfl ?_)))))))))))
                    refine to_c (pc := 222) rw_237_222 (x := (1 : Int32)) rfl rfl (s_sub (pc := 223) rw_237_223 (A := x4.toInt) (B := 1) rfl rfl (by omega) (fun v148 e149 => to_is (pc := 224) rw_237_224 (ls2 := [.ref 77, u1, .int w, .int x3, .int x4, .int x8, .int r26, .int r118, .int x8, .int r26, .int r118, .int (1 : Int32), .int v148, u13]) rfl rfl ?_))
                    have t_150 : (M121.2.1 83 (x3.toInt).toNat).toInt = (N.2.1 83 (x3.toInt).toNat).toInt := congrArg Int32.toInt (F_n F119 (show ¬ (83 < 0) by decide) (F_n F27 (show ¬ (83 < 0) by decide) rfl))
                    have t_151 : (M121.2.1 82 (x3.toInt).toNat).toInt = (N.2.1 82 (x3.toInt).toNat).toInt := congrArg Int32.toInt (F_n F119 (show ¬ (82 < 0) by decide) (F_n F27 (show ¬ (82 < 0) by decide) rfl))
                    have t_152 : (M121.2.1 82 (x3.toInt).toNat).toInt = (N.2.1 82 (x3.toInt).toNat).toInt := congrArg Int32.toInt (F_n F119 (show ¬ (82 < 0) by decide) (F_n F27 (show ¬ (82 < 0) by decide) rfl))
                    have t_153 : (M121.2.1 83 (x3.toInt).toNat).toInt = (N.2.1 83 (x3.toInt).toNat).toInt := congrArg Int32.toInt (F_n F119 (show ¬ (83 < 0) by decide) (F_n F27 (show ¬ (83 < 0) by decide) rfl))
                    have s_154 : PV M121 (x4.toInt).toNat = PV N (x4.toInt).toNat := PV_f _ (fun i z => (F_n F119 (show ¬ (118 < 0) by decide) (F_n F27 (show ¬ (118 < 0) by decide) rfl)))
                    exact ih.2.2.1 M121 (u1) x3 x4 x8 r26 r118 (.int x8) (.int r26) (.int r118) (.int (1 : Int32)) v148 (u13) hG120 F122 (by omega) (by omega) (by omega) (by omega) (by omega) (by omega) (by omega) (by omega) (by omega) (by omega) (fun i z => by have z2 := g10 i z; rw [(F_n F119 (show ¬ (118 < 0) by decide) (F_n F27 (show ¬ (118 < 0) by decide) rfl))]; omega) (by omega)
                  · refine to_i (pc := 182) rw_237_182 rfl (to_i (pc := 184) rw_237_184 rfl (b_cne (pc := 186) rw_237_186 (A := r118.toInt) (B := x7.toInt) rfl rfl (fun h155 => ?_) (fun h155 => ?_)))
                    · refine to_c (pc := 200) rw_237_200 (x := (0 : Int32)) rfl rfl (to_is (pc := 201) rw_237_201 (ls2 := [.ref 77, u1, .int w, .int x3, .int x4, .int x5, .int x6, .int x7, .int x8, .int r26, .int r118, .int (0 : Int32), u12, u13]) rfl rfl (to_i (pc := 203) rw_237_203 rfl (b_ieq_t (pc := 205) rw_237_205 (A := 0) rfl (by decide) (to_i (pc := 220) rw_237_220 rfl (to_c (pc := 222) rw_237_222 (x := (1 : Int32)) rfl rfl (s_sub (pc := 223) rw_237_223 (A := x4.toInt) (B := 1) rfl rfl (by omega) (fun v156 e157 => to_is (pc := 224) rw_237_224 (ls2 := [.ref 77, u1, .int w, .int x3, .int x4, .int x5, .int x6, .int x7, .int x8, .int r26, .int r118, .int (0 : Int32), .int v156, u13]) rfl rfl ?_)))))))
                      have t_158 : (M121.2.1 83 (x3.toInt).toNat).toInt = (N.2.1 83 (x3.toInt).toNat).toInt := congrArg Int32.toInt (F_n F119 (show ¬ (83 < 0) by decide) (F_n F27 (show ¬ (83 < 0) by decide) rfl))
                      have t_159 : (M121.2.1 82 (x3.toInt).toNat).toInt = (N.2.1 82 (x3.toInt).toNat).toInt := congrArg Int32.toInt (F_n F119 (show ¬ (82 < 0) by decide) (F_n F27 (show ¬ (82 < 0) by decide) rfl))
                      have t_160 : (M121.2.1 82 (x3.toInt).toNat).toInt = (N.2.1 82 (x3.toInt).toNat).toInt := congrArg Int32.toInt (F_n F119 (show ¬ (82 < 0) by decide) (F_n F27 (show ¬ (82 < 0) by decide) rfl))
                      have t_161 : (M121.2.1 83 (x3.toInt).toNat).toInt = (N.2.1 83 (x3.toInt).toNat).toInt := congrArg Int32.toInt (F_n F119 (show ¬ (83 < 0) by decide) (F_n F27 (show ¬ (83 < 0) by decide) rfl))
                      have s_162 : PV M121 (x4.toInt).toNat = PV N (x4.toInt).toNat := PV_f _ (fun i z => (F_n F119 (show ¬ (118 < 0) by decide) (F_n F27 (show ¬ (118 < 0) by decide) rfl)))
                      exact ih.2.2.1 M121 (u1) x3 x4 x5 x6 x7 (.int x8) (.int r26) (.int r118) (.int (0 : Int32)) v156 (u13) hG120 F122 (by omega) (by omega) (by omega) (by omega) (by omega) (by omega) (by omega) (by omega) (by omega) (by omega) (fun i z => by have z2 := g10 i z; rw [(F_n F119 (show ¬ (118 < 0) by decide) (F_n F27 (show ¬ (118 < 0) by decide) rfl))]; omega) (by omega)
                    · refine to_i (pc := 189) rw_237_189 rfl (to_i (pc := 191) rw_237_191 rfl (b_cge (pc := 193) rw_237_193 (A := x8.toInt) (B := x5.toInt) rfl rfl (fun h163 => ?_) (fun h163 => ?_)))
                      · refine to_c (pc := 200) rw_237_200 (x := (0 : Int32)) rfl rfl (to_is (pc := 201) rw_237_201 (ls2 := [.ref 77, u1, .int w, .int x3, .int x4, .int x5, .int x6, .int x7, .int x8, .int r26, .int r118, .int (0 : Int32), u12, u13]) rfl rfl (to_i (pc := 203) rw_237_203 rfl (b_ieq_t (pc := 205) rw_237_205 (A := 0) rfl (by decide) (to_i (pc := 220) rw_237_220 rfl (to_c (pc := 222) rw_237_222 (x := (1 : Int32)) rfl rfl (s_sub (pc := 223) rw_237_223 (A := x4.toInt) (B := 1) rfl rfl (by omega) (fun v164 e165 => to_is (pc := 224) rw_237_224 (ls2 := [.ref 77, u1, .int w, .int x3, .int x4, .int x5, .int x6, .int x7, .int x8, .int r26, .int r118, .int (0 : Int32), .int v164, u13]) rfl rfl ?_)))))))
                        have t_166 : (M121.2.1 83 (x3.toInt).toNat).toInt = (N.2.1 83 (x3.toInt).toNat).toInt := congrArg Int32.toInt (F_n F119 (show ¬ (83 < 0) by decide) (F_n F27 (show ¬ (83 < 0) by decide) rfl))
                        have t_167 : (M121.2.1 82 (x3.toInt).toNat).toInt = (N.2.1 82 (x3.toInt).toNat).toInt := congrArg Int32.toInt (F_n F119 (show ¬ (82 < 0) by decide) (F_n F27 (show ¬ (82 < 0) by decide) rfl))
                        have t_168 : (M121.2.1 82 (x3.toInt).toNat).toInt = (N.2.1 82 (x3.toInt).toNat).toInt := congrArg Int32.toInt (F_n F119 (show ¬ (82 < 0) by decide) (F_n F27 (show ¬ (82 < 0) by decide) rfl))
                        have t_169 : (M121.2.1 83 (x3.toInt).toNat).toInt = (N.2.1 83 (x3.toInt).toNat).toInt := congrArg Int32.toInt (F_n F119 (show ¬ (83 < 0) by decide) (F_n F27 (show ¬ (83 < 0) by decide) rfl))
                        have s_170 : PV M121 (x4.toInt).toNat = PV N (x4.toInt).toNat := PV_f _ (fun i z => (F_n F119 (show ¬ (118 < 0) by decide) (F_n F27 (show ¬ (118 < 0) by decide) rfl)))
                        exact ih.2.2.1 M121 (u1) x3 x4 x5 x6 x7 (.int x8) (.int r26) (.int r118) (.int (0 : Int32)) v164 (u13) hG120 F122 (by omega) (by omega) (by omega) (by omega) (by omega) (by omega) (by omega) (by omega) (by omega) (by omega) (fun i z => by have z2 := g10 i z; rw [(F_n F119 (show ¬ (118 < 0) by decide) (F_n F27 (show ¬ (118 < 0) by decide) rfl))]; omega) (by omega)
                      · refine to_c (pc := 196) rw_237_196 (x := (1 : Int32)) rfl rfl (to_go (pc := 197) rw_237_197 (to_is (pc := 201) rw_237_201 (ls2 := [.ref 77, u1, .int w, .int x3, .int x4, .int x5, .int x6, .int x7, .int x8, .int r26, .int r118, .int (1 : Int32), u12, u13]) rfl rfl (to_i (pc := 203) rw_237_203 rfl (b_ieq_f (pc := 205) rw_237_205 (A := 1) rfl (by decide) (to_i (pc := 208) rw_237_208 rfl (to_is (pc := 210) rw_237_210 (ls2 := [.ref 77, u1, .int w, .int x3, .int x4, .int x8, .int x6, .int x7, .int x8, .int r26, .int r118, .int (1 : Int32), u12, u13]) rfl rfl (to_i (pc := 212) rw_237_212 rfl (to_is (pc := 214) rw_237_214 (ls2 := [.ref 77, u1, .int w, .int x3, .int x4, .int x8, .int r26, .int x7, .int x8, .int r26, .int r118, .int (1 : Int32), u12, u13]) rfl rfl (to_i (pc := 216) rw_237_216 rfl (to_is (pc := 218) rw_237_218 (ls2 := [.ref 77, u1, .int w, .int x3, .int x4, .int x8, .int r26, .int r118, .int x8, .int r26, .int r118, .int (1 : Int32), u12, u13]) rfl rfl (to_i (pc := 220) rw_237_220 rfl ?_)))))))))))
                        refine to_c (pc := 222) rw_237_222 (x := (1 : Int32)) rfl rfl (s_sub (pc := 223) rw_237_223 (A := x4.toInt) (B := 1) rfl rfl (by omega) (fun v171 e172 => to_is (pc := 224) rw_237_224 (ls2 := [.ref 77, u1, .int w, .int x3, .int x4, .int x8, .int r26, .int r118, .int x8, .int r26, .int r118, .int (1 : Int32), .int v171, u13]) rfl rfl ?_))
                        have t_173 : (M121.2.1 83 (x3.toInt).toNat).toInt = (N.2.1 83 (x3.toInt).toNat).toInt := congrArg Int32.toInt (F_n F119 (show ¬ (83 < 0) by decide) (F_n F27 (show ¬ (83 < 0) by decide) rfl))
                        have t_174 : (M121.2.1 82 (x3.toInt).toNat).toInt = (N.2.1 82 (x3.toInt).toNat).toInt := congrArg Int32.toInt (F_n F119 (show ¬ (82 < 0) by decide) (F_n F27 (show ¬ (82 < 0) by decide) rfl))
                        have t_175 : (M121.2.1 82 (x3.toInt).toNat).toInt = (N.2.1 82 (x3.toInt).toNat).toInt := congrArg Int32.toInt (F_n F119 (show ¬ (82 < 0) by decide) (F_n F27 (show ¬ (82 < 0) by decide) rfl))
                        have t_176 : (M121.2.1 83 (x3.toInt).toNat).toInt = (N.2.1 83 (x3.toInt).toNat).toInt := congrArg Int32.toInt (F_n F119 (show ¬ (83 < 0) by decide) (F_n F27 (show ¬ (83 < 0) by decide) rfl))
                        have s_177 : PV M121 (x4.toInt).toNat = PV N (x4.toInt).toNat := PV_f _ (fun i z => (F_n F119 (show ¬ (118 < 0) by decide) (F_n F27 (show ¬ (118 < 0) by decide) rfl)))
                        exact ih.2.2.1 M121 (u1) x3 x4 x8 r26 r118 (.int x8) (.int r26) (.int r118) (.int (1 : Int32)) v171 (u13) hG120 F122 (by omega) (by omega) (by omega) (by omega) (by omega) (by omega) (by omega) (by omega) (by omega) (by omega) (fun i z => by have z2 := g10 i z; rw [(F_n F119 (show ¬ (118 < 0) by decide) (F_n F27 (show ¬ (118 < 0) by decide) rfl))]; omega) (by omega)
      · refine to_i (pc := 90) rw_237_90 rfl (to_c (pc := 92) rw_237_92 (x := (1 : Int32)) rfl rfl (to_an (pc := 93) rw_237_93 rfl (s_gR (pc := 94) rw_237_94 hG rfl (v := 118) rfl (to_i (pc := 97) rw_237_97 rfl (s_ial (pc := 99) rw_237_99 hG rfl (n := 4) rfl rfl (A := x9.toInt) rfl (by omega) (by omega) (lo := 0) (hi := 63) rfl rfl (fun v178 w_179 _ _ => s_any (pc := 100) rw_237_100 (fun _ _ => rfl) (fun v180 => s_any (pc := 101) rw_237_101 (fun _ _ => rfl) (fun v181 => to_is (pc := 102) rw_237_102 (ls2 := [.ref 77, u1, .int w, .int x3, .int x4, .int x5, .int x6, .int x7, .int v181, .int x9, u10, u11, u12, u13]) rfl rfl (s_inc (pc := 104) rw_237_104 (ls2 := fun v => [.ref 77, u1, .int w, .int x3, .int x4, .int x5, .int x6, .int x7, .int v181, .int v, u10, u11, u12, u13]) rfl rfl (fun _ => rfl) (A := x9.toInt) (B := 1) rfl rfl (by omega) (fun v182 e183 => to_go (pc := 107) rw_237_107 ?_))))))))))
        exact ih.2.1 N (u1) x3 x4 x5 x6 x7 v181 v182 (u10) (u11) (u12) (u13) hG F0 (by omega) (by omega) (by omega) (by omega) (by omega) (by omega) (by omega) (by omega) (by omega) g10 (by omega)
    · intro N u1 x3 x4 x5 x6 x7 u8 u9 u10 u11 x12 u13 hG F0 g1 g2 g3 g4 g5 g6 g7 g8 g9 g10 g11 hm
      have s_184 := PV_b hG (x4.toInt).toNat
      have s_185 := pw_4 (k := (x4.toInt).toNat) (by omega)
      have s_186 := g_b hG (a := 83) (i := (x3.toInt).toNat) (lo := 0) (hi := 63) rfl rfl
      have s_187 := g_b hG (a := 82) (i := (x3.toInt).toNat) (lo := 0) (hi := 59) rfl rfl
      refine to_i (pc := 226) rw_237_226 rfl (b_ilt (pc := 228) rw_237_228 (A := x12.toInt) rfl (fun h188 => ?_) (fun h188 => ?_))
      · refine to_i (pc := 258) rw_237_258 rfl (b_ige_f (pc := 260) rw_237_260 (A := x12.toInt) rfl (by omega) (to_i (pc := 263) rw_237_263 rfl (to_r0 (pc := 265) rw_237_265 ?_)))
        exact h x5 N hG F0 
      · refine to_an (pc := 231) rw_237_231 rfl (s_gR (pc := 232) rw_237_232 hG rfl (v := 118) rfl (to_i (pc := 235) rw_237_235 rfl (s_ial (pc := 237) rw_237_237 hG rfl (n := 4) rfl rfl (A := x12.toInt) rfl (by omega) (by omega) (lo := 0) (hi := 63) rfl rfl (fun v189 w_190 _ _ => ?_))))
        have s_191 := g11 (x12.toInt).toNat (by omega)
        rw [w_190] at s_191
        have s_192 := congrArg Int32.toInt w_190
        refine to_an (pc := 238) rw_237_238 rfl (to_in (pc := 239) rw_237_239 rfl (s_v (pc := 240) rw_237_240 (dp0 hd (by decide)) (ls0 := [.ref 77, .int x3]) rfl (Nat.le_of_ble_eq_true rfl) (Nat.le_of_ble_eq_true rfl) rfl (to_rc rfl rfl rfl (g_o hG rfl)) rfl (to_an (pc := 0) rw_197_0 rfl (s_gR (pc := 1) rw_197_1 hG rfl (v := 83) rfl (to_in (pc := 4) rw_197_4 rfl (s_ial (pc := 5) rw_197_5 hG rfl (n := 16) rfl rfl (A := x3.toInt) rfl (by omega) (by omega) (lo := 0) (hi := 63) rfl rfl (fun v193 w_194 _ _ => ?_)))))))
        have t_195 := congrArg Int32.toInt w_194
        refine to_an (pc := 6) rw_197_6 rfl (s_gR (pc := 7) rw_197_7 hG rfl (v := 82) rfl (to_in (pc := 10) rw_197_10 rfl (s_ial (pc := 11) rw_197_11 hG rfl (n := 16) rfl rfl (A := x3.toInt) rfl (by omega) (by omega) (lo := 0) (hi := 59) rfl rfl (fun v196 w_197 _ _ => ?_))))
        have t_198 := congrArg Int32.toInt w_197
        refine s_sub (pc := 12) rw_197_12 (A := v193.toInt) (B := v196.toInt) rfl rfl (by omega) (fun v199 e200 => to_c (pc := 13) rw_197_13 (x := (1 : Int32)) rfl rfl (s_add (pc := 14) rw_197_14 (A := v199.toInt) (B := 1) rfl rfl (by omega) (fun v201 e202 => to_r0 (pc := 15) rw_197_15 (to_i (pc := 243) rw_237_243 rfl (s_sub (pc := 245) rw_237_245 (A := v201.toInt) (B := x4.toInt) rfl rfl (by omega) (fun v203 e204 => to_i (pc := 246) rw_237_246 rfl (s_add (pc := 248) rw_237_248 (A := v203.toInt) (B := x12.toInt) rfl rfl (by omega) (fun v205 e206 => b_cne (pc := 249) rw_237_249 (A := v189.toInt) (B := v205.toInt) rfl rfl (fun h207 => ?_) (fun h207 => ?_)))))))))
        · refine to_i (pc := 258) rw_237_258 rfl (b_ige_t (pc := 260) rw_237_260 (A := x12.toInt) rfl (by omega) (to_an (pc := 266) rw_237_266 rfl (s_gR (pc := 267) rw_237_267 hG rfl (v := 118) rfl (to_i (pc := 270) rw_237_270 rfl (to_dup2 (pc := 272) rw_237_272 (s_ialk (pc := 273) rw_237_273 hG rfl (n := 4) rfl rfl (A := x12.toInt) rfl (by omega) (by omega) (v := v189) w_190 (to_c (pc := 274) rw_237_274 (x := (1 : Int32)) rfl rfl (s_add (pc := 275) rw_237_275 (A := v189.toInt) (B := 1) rfl rfl (by omega) (fun v210 e211 => s_ias (pc := 276) rw_237_276 hG rfl (n := 4) rfl (A := x12.toInt) rfl (by omega) (by omega) (fun M213 W212 => ?_))))))))))
          have hG214 := g_w hG W212 (A := v210.toInt) rfl (lo := 0) (hi := 63) rfl rfl (by omega) (by decide)
          have F215 := FR.w F0 W212 (show 118 = 77 ∧ (x12.toInt).toNat = 2 ∨ 94 ≤ 118 ∧ 118 ≤ 98 ∨ 118 = 118 by omega)
          refine to_i (pc := 277) rw_237_277 rfl (to_c (pc := 279) rw_237_279 (x := (1 : Int32)) rfl rfl (s_add (pc := 280) rw_237_280 (A := x12.toInt) (B := 1) rfl rfl (by omega) (fun v216 e217 => to_is (pc := 281) rw_237_281 (ls2 := [.ref 77, u1, .int w, .int x3, .int x4, .int x5, .int x6, .int x7, u8, u9, u10, u11, .int x12, .int v216]) rfl rfl ?_)))
          have t_218 : (M213.2.1 83 (x3.toInt).toNat).toInt = (N.2.1 83 (x3.toInt).toNat).toInt := congrArg Int32.toInt (W_n W212 (by omega) rfl)
          have t_219 : (M213.2.1 82 (x3.toInt).toNat).toInt = (N.2.1 82 (x3.toInt).toNat).toInt := congrArg Int32.toInt (W_n W212 (by omega) rfl)
          have t_220 : (M213.2.1 82 (x3.toInt).toNat).toInt = (N.2.1 82 (x3.toInt).toNat).toInt := congrArg Int32.toInt (W_n W212 (by omega) rfl)
          have t_221 : (M213.2.1 83 (x3.toInt).toNat).toInt = (N.2.1 83 (x3.toInt).toNat).toInt := congrArg Int32.toInt (W_n W212 (by omega) rfl)
          have s_222 : (M213.2.1 118 (x12.toInt).toNat).toInt = v210.toInt := congrArg Int32.toInt (W_e W212)
          have s_223 := PW_inc (M := N) (M1 := M213) hG (i := (x12.toInt).toNat) (k := (x4.toInt).toNat) (by omega) (fun i z => (W_n W212 (by omega) rfl)) (by rw [(W_e W212)]; omega)
          have s_224 : PW M213 (v216.toInt).toNat (x4.toInt).toNat = PW M213 ((x12.toInt).toNat + 1) (x4.toInt).toNat := by rw [show (v216.toInt).toNat = (x12.toInt).toNat + 1 by omega]
          exact ih.2.2.2 M213 (u1) x3 x4 x5 x6 x7 (u8) (u9) (u10) (u11) (.int x12) v216 hG214 F215 (by omega) (by omega) (by omega) (by omega) (by omega) (by omega) (by omega) (by omega) (by omega) (by omega) (fun i z => by
              by_cases ei : i = (x12.toInt).toNat
              · rw [ei]; omega
              · have z2 := g11 i (by omega)
                rw [(W_n W212 (by omega) rfl)]; omega) (by omega)
        · refine s_inc (pc := 252) rw_237_252 (ls2 := fun v => [.ref 77, u1, .int w, .int x3, .int x4, .int x5, .int x6, .int x7, u8, u9, u10, u11, .int v, u13]) rfl rfl (fun _ => rfl) (A := x12.toInt) (B := -1) rfl rfl (by omega) (fun v225 e226 => to_go (pc := 255) rw_237_255 ?_)
          exact ih.2.2.1 N (u1) x3 x4 x5 x6 x7 (u8) (u9) (u10) (u11) v225 (u13) hG F0 (by omega) (by omega) (by omega) (by omega) (by omega) (by omega) (by omega) (by omega) (by omega) (by omega) g11 (by omega)
    · intro N u1 x3 x4 x5 x6 x7 u8 u9 u10 u11 u12 x13 hG F0 g1 g2 g3 g4 g5 g6 g7 g8 g9 g10 g11 hm
      have s_227 := PW_b hG (j := (x13.toInt).toNat) (k := (x4.toInt).toNat) (by omega) (by omega)
      have s_228 := g_b hG (a := 83) (i := (x3.toInt).toNat) (lo := 0) (hi := 63) rfl rfl
      have s_229 := g_b hG (a := 82) (i := (x3.toInt).toNat) (lo := 0) (hi := 59) rfl rfl
      refine to_i (pc := 283) rw_237_283 rfl (to_i (pc := 285) rw_237_285 rfl (b_cge (pc := 287) rw_237_287 (A := x13.toInt) (B := x4.toInt) rfl rfl (fun h230 => ?_) (fun h230 => ?_)))
      · refine to_go (pc := 314) rw_237_314 ?_
        have s_231 : PW N (x13.toInt).toNat (x4.toInt).toNat = PV N (x4.toInt).toNat := by rw [show (x13.toInt).toNat = (x4.toInt).toNat by omega]; exact PW_k
        exact ih.1 N (u1) x3 x4 x5 x6 x7 (u8) (u9) (u10) (u11) (u12) (.int x13) hG F0 (by omega) (by omega) (by omega) (by omega) (by omega) (by omega) (by omega) (fun i z => g11 i (by omega)) (by omega)
      · refine to_an (pc := 290) rw_237_290 rfl (s_gR (pc := 291) rw_237_291 hG rfl (v := 118) rfl (to_i (pc := 294) rw_237_294 rfl (to_an (pc := 296) rw_237_296 rfl (s_gR (pc := 297) rw_237_297 hG rfl (v := 118) rfl (to_i (pc := 300) rw_237_300 rfl (to_c (pc := 302) rw_237_302 (x := (1 : Int32)) rfl rfl (s_sub (pc := 303) rw_237_303 (A := x13.toInt) (B := 1) rfl rfl (by omega) (fun v232 e233 => s_ial (pc := 304) rw_237_304 hG rfl (n := 4) rfl rfl (A := v232.toInt) rfl (by omega) (by omega) (lo := 0) (hi := 63) rfl rfl (fun v234 w_235 _ _ => ?_)))))))))
        have s_236 := g11 (v232.toInt).toNat (by omega)
        rw [w_235] at s_236
        have s_237 := congrArg Int32.toInt w_235
        refine to_c (pc := 305) rw_237_305 (x := (1 : Int32)) rfl rfl (s_add (pc := 306) rw_237_306 (A := v234.toInt) (B := 1) rfl rfl (by omega) (fun v238 e239 => s_ias (pc := 307) rw_237_307 hG rfl (n := 4) rfl (A := x13.toInt) rfl (by omega) (by omega) (fun M241 W240 => ?_)))
        have hG242 := g_w hG W240 (A := v238.toInt) rfl (lo := 0) (hi := 63) rfl rfl (by omega) (by decide)
        have F243 := FR.w F0 W240 (show 118 = 77 ∧ (x13.toInt).toNat = 2 ∨ 94 ≤ 118 ∧ 118 ≤ 98 ∨ 118 = 118 by omega)
        refine s_inc (pc := 308) rw_237_308 (ls2 := fun v => [.ref 77, u1, .int w, .int x3, .int x4, .int x5, .int x6, .int x7, u8, u9, u10, u11, u12, .int v]) rfl rfl (fun _ => rfl) (A := x13.toInt) (B := 1) rfl rfl (by omega) (fun v244 e245 => to_go (pc := 311) rw_237_311 ?_)
        have t_246 : (M241.2.1 83 (x3.toInt).toNat).toInt = (N.2.1 83 (x3.toInt).toNat).toInt := congrArg Int32.toInt (W_n W240 (by omega) rfl)
        have t_247 : (M241.2.1 82 (x3.toInt).toNat).toInt = (N.2.1 82 (x3.toInt).toNat).toInt := congrArg Int32.toInt (W_n W240 (by omega) rfl)
        have t_248 : (M241.2.1 82 (x3.toInt).toNat).toInt = (N.2.1 82 (x3.toInt).toNat).toInt := congrArg Int32.toInt (W_n W240 (by omega) rfl)
        have t_249 : (M241.2.1 83 (x3.toInt).toNat).toInt = (N.2.1 83 (x3.toInt).toNat).toInt := congrArg Int32.toInt (W_n W240 (by omega) rfl)
        have s_250 : (M241.2.1 118 (x13.toInt).toNat).toInt = v238.toInt := congrArg Int32.toInt (W_e W240)
        have s_251 : PW M241 (x13.toInt).toNat (x4.toInt).toNat = PW N (x13.toInt).toNat (x4.toInt).toNat := PW_f (fun i z => (W_n W240 (by omega) rfl))
        have s_252 := PW_le hG242 (j := (x13.toInt).toNat) (k := (x4.toInt).toNat) (by omega)
        have s_253 : PW M241 (v244.toInt).toNat (x4.toInt).toNat = PW M241 ((x13.toInt).toNat + 1) (x4.toInt).toNat := by rw [show (v244.toInt).toNat = (x13.toInt).toNat + 1 by omega]
        exact ih.2.2.2 M241 (u1) x3 x4 x5 x6 x7 (u8) (u9) (u10) (u11) (u12) v244 hG242 F243 (by omega) (by omega) (by omega) (by omega) (by omega) (by omega) (by omega) (by omega) (by omega) (by omega) (fun i z => by
            by_cases ei : i = (x13.toInt).toNat
            · rw [ei]; omega
            · have z2 := g11 i (by omega)
              rw [(W_n W240 (by omega) rfl)]; omega) (by omega)
set_option maxRecDepth 4000 in
set_option maxHeartbeats 0 in
theorem T_237_1 {X : mm_X} {d : Nat} {M : mm_M} {Q : Option Value → mm_M → Prop} {n : Int32} {w : Int32} (hX : g_X X) (hd : 3 ≤ d) (q1 : NJ M) (q2 : FA M) (q3 : WC M) (h : ∀ (r : Int32) (M1 : mm_M), g_G M1 → FR md_bs M M1 → Q (some (.int r)) M1) : ∀ nn9 : Nat, (∀ (N : mm_M) (u1 : Value) (x3 : Int32) (x4 : Int32) (x5 : Int32) (x6 : Int32) (x7 : Int32) (x8 : Int32) (u9 : Value) (u10 : Value) (u11 : Value) (u12 : Value) (u13 : Value), g_G N → FR md_bs M N → (0 ≤ x8.toInt) → (x8.toInt ≤ 4) → (1 ≤ x4.toInt) → (x4.toInt ≤ 4) → (0 ≤ x3.toInt) → (x3.toInt ≤ 7) → (0 ≤ w.toInt) → (w.toInt ≤ 11) → (x4.toInt ≤ (N.2.1 83 (x3.toInt).toNat).toInt - (N.2.1 82 (x3.toInt).toNat).toInt + 1) → (∀ i : Nat, i < (x8.toInt).toNat → (N.2.1 118 i).toInt = i) → 4 - x8.toInt < (nn9 : Int) → mm_T X d 236 55 [.ref 77, u1, .int w, .int x3, .int x4, .int x5, .int x6, .int x7, .int x8, u9, u10, u11, u12, u13] [] N Q) := by
  intro nn9
  induction nn9 with
  | zero =>
    intro N u1 x3 x4 x5 x6 x7 x8 u9 u10 u11 u12 u13 hG F0 g1 g2 g3 g4 g5 g6 g7 g8 g9 g10 hm
    exfalso; omega
  | succ nn9 ih =>
    intro N u1 x3 x4 x5 x6 x7 x8 u9 u10 u11 u12 u13 hG F0 g1 g2 g3 g4 g5 g6 g7 g8 g9 g10 hm
    have s_254 := g_b hG (a := 83) (i := (x3.toInt).toNat) (lo := 0) (hi := 63) rfl rfl
    have s_255 := g_b hG (a := 82) (i := (x3.toInt).toNat) (lo := 0) (hi := 59) rfl rfl
    refine to_i (pc := 55) rw_237_55 rfl (to_i (pc := 57) rw_237_57 rfl (b_cge (pc := 59) rw_237_59 (A := x8.toInt) (B := x4.toInt) rfl rfl (fun h256 => ?_) (fun h256 => ?_)))
    · exact (T_237_0 (n := n) (w := w) hX hd q1 q2 q3 h (((16777216 - PV N (x4.toInt).toNat) * 1000 + 500).toNat + 1)).1 N (u1) x3 x4 x5 x6 x7 (.int x8) (u9) (u10) (u11) (u12) (u13) hG F0 (by omega) (by omega) (by omega) (by omega) (by omega) (by omega) (by omega) (fun i z => by have z2 := g10 i (by omega); omega) (by omega)
    · refine to_an (pc := 62) rw_237_62 rfl (s_gR (pc := 63) rw_237_63 hG rfl (v := 118) rfl (to_i (pc := 66) rw_237_66 rfl (to_i (pc := 68) rw_237_68 rfl (s_ias (pc := 70) rw_237_70 hG rfl (n := 4) rfl (A := x8.toInt) rfl (by omega) (by omega) (fun M258 W257 => ?_)))))
      have hG259 := g_w hG W257 (A := x8.toInt) rfl (lo := 0) (hi := 63) rfl rfl (by omega) (by decide)
      have F260 := FR.w F0 W257 (show 118 = 77 ∧ (x8.toInt).toNat = 2 ∨ 94 ≤ 118 ∧ 118 ≤ 98 ∨ 118 = 118 by omega)
      refine s_inc (pc := 71) rw_237_71 (ls2 := fun v => [.ref 77, u1, .int w, .int x3, .int x4, .int x5, .int x6, .int x7, .int v, u9, u10, u11, u12, u13]) rfl rfl (fun _ => rfl) (A := x8.toInt) (B := 1) rfl rfl (by omega) (fun v261 e262 => to_go (pc := 74) rw_237_74 ?_)
      have t_263 : (M258.2.1 83 (x3.toInt).toNat).toInt = (N.2.1 83 (x3.toInt).toNat).toInt := congrArg Int32.toInt (W_n W257 (by omega) rfl)
      have t_264 : (M258.2.1 82 (x3.toInt).toNat).toInt = (N.2.1 82 (x3.toInt).toNat).toInt := congrArg Int32.toInt (W_n W257 (by omega) rfl)
      exact ih M258 (u1) x3 x4 x5 x6 x7 v261 (u9) (u10) (u11) (u12) (u13) hG259 F260 (by omega) (by omega) (by omega) (by omega) (by omega) (by omega) (by omega) (by omega) (by omega) (fun i z => by
          by_cases e : i = (x8.toInt).toNat
          · rw [e, (W_e W257)]; omega
          · rw [(W_n W257 (by omega) rfl)]; exact g10 i (by omega)) (by omega)
set_option maxRecDepth 4000 in
set_option maxHeartbeats 0 in
theorem C_237 {X : mm_X} {d : Nat} {M : mm_M} {Q : Option Value → mm_M → Prop} {n : Int32} {w : Int32} (hX : g_X X) (hd : 3 ≤ d) (hG : g_G M) (q1 : NJ M) (q2 : FA M) (q3 : WC M) (h : ∀ (r : Int32) (M1 : mm_M), g_G M1 → FR md_bs M M1 → Q (some (.int r)) M1) : mm_T X d 236 0 [.ref 77, .int n, .int w, .null, .null, .null, .null, .null, .null, .null, .null, .null, .null, .null] [] M Q := by
  have F0 : FR md_bs M M := FR.rf
  refine to_an (pc := 0) rw_237_0 rfl (to_c (pc := 1) rw_237_1 (x := (0 : Int32)) rfl rfl (s_pI (pc := 2) rw_237_2 hG rfl (fun M266 W265 => ?_)))
  have hG267 := g_wf hG W265 rfl rfl (by decide)
  have F268 := FR.w F0 W265 (show 77 = 77 ∧ 2 = 2 ∨ 94 ≤ 77 ∧ 77 ≤ 98 ∨ 77 = 118 by decide)
  refine to_an (pc := 5) rw_237_5 rfl (to_in (pc := 6) rw_237_6 rfl (s_v (pc := 7) rw_237_7 (dp0 hd (by decide)) (ls0 := [.ref 77, .int n]) rfl (Nat.le_of_ble_eq_true rfl) (Nat.le_of_ble_eq_true rfl) rfl (to_rc rfl rfl rfl (g_o hG267 rfl)) rfl (to_in (pc := 0) rw_186_0 rfl (b_ilt (pc := 1) rw_186_1 (A := n.toInt) rfl (fun h269 => ?_) (fun h269 => ?_)))))
  · refine to_c (pc := 16) rw_186_16 (x := (0 : Int32)) rfl rfl (s_r1 (pc := 17) rw_186_17 (A := 0) rfl (by decide) (b_ieq_t (pc := 10) rw_237_10 (A := 0) rfl (by decide) (to_c (pc := 21) rw_237_21 (x := (-1 : Int32)) rfl rfl (to_r0 (pc := 22) rw_237_22 ?_))))
    have k_270 : (-1 : Int32).toInt = -1 := rfl
    exact h (-1 : Int32) M266 hG267 F268 
  · refine to_in (pc := 4) rw_186_4 rfl (to_an (pc := 5) rw_186_5 rfl ?_)
    have c_271 : M266.2.1 77 29 = (M.2.1 77 29) := (W_n W265 (by decide) rfl)
    have b_272 := g_b hG (a := 77) (i := 29) (lo := 0) (hi := 150) rfl rfl
    refine tt_gI (pc := 6) rw_186_6 (g_o hG267 rfl) (v := (M.2.1 77 29)) c_271 (b_cgt (pc := 9) rw_186_9 (A := n.toInt) (B := (M.2.1 77 29).toInt) rfl rfl (fun h273 => ?_) (fun h273 => ?_))
    · refine to_c (pc := 16) rw_186_16 (x := (0 : Int32)) rfl rfl (s_r1 (pc := 17) rw_186_17 (A := 0) rfl (by decide) (b_ieq_t (pc := 10) rw_237_10 (A := 0) rfl (by decide) (to_c (pc := 21) rw_237_21 (x := (-1 : Int32)) rfl rfl (to_r0 (pc := 22) rw_237_22 ?_))))
      have k_274 : (-1 : Int32).toInt = -1 := rfl
      exact h (-1 : Int32) M266 hG267 F268 
    · refine to_c (pc := 12) rw_186_12 (x := (1 : Int32)) rfl rfl (to_go (pc := 13) rw_186_13 (s_r1 (pc := 17) rw_186_17 (A := 1) rfl (by decide) (b_ieq_f (pc := 10) rw_237_10 (A := 1) rfl (by decide) (to_an (pc := 13) rw_237_13 rfl (to_in (pc := 14) rw_237_14 rfl (s_v (pc := 15) rw_237_15 (dp0 hd (by decide)) (ls0 := [.ref 77, .int w]) rfl (Nat.le_of_ble_eq_true rfl) (Nat.le_of_ble_eq_true rfl) rfl (to_rc rfl rfl rfl (g_o hG267 rfl)) rfl (to_in (pc := 0) rw_180_0 rfl (b_ilt (pc := 1) rw_180_1 (A := w.toInt) rfl (fun h275 => ?_) (fun h275 => ?_)))))))))
      · refine to_c (pc := 16) rw_180_16 (x := (0 : Int32)) rfl rfl (s_r1 (pc := 17) rw_180_17 (A := 0) rfl (by decide) (b_ine_f (pc := 18) rw_237_18 (A := 0) rfl (by decide) (to_c (pc := 21) rw_237_21 (x := (-1 : Int32)) rfl rfl (to_r0 (pc := 22) rw_237_22 ?_))))
        have k_276 : (-1 : Int32).toInt = -1 := rfl
        exact h (-1 : Int32) M266 hG267 F268 
      · refine to_in (pc := 4) rw_180_4 rfl (to_an (pc := 5) rw_180_5 rfl ?_)
        have c_277 : M266.2.1 77 13 = (M.2.1 77 13) := (W_n W265 (by decide) rfl)
        have b_278 := g_b hG (a := 77) (i := 13) (lo := 0) (hi := 12) rfl rfl
        refine tt_gI (pc := 6) rw_180_6 (g_o hG267 rfl) (v := (M.2.1 77 13)) c_277 (b_cge (pc := 9) rw_180_9 (A := w.toInt) (B := (M.2.1 77 13).toInt) rfl rfl (fun h279 => ?_) (fun h279 => ?_))
        · refine to_c (pc := 16) rw_180_16 (x := (0 : Int32)) rfl rfl (s_r1 (pc := 17) rw_180_17 (A := 0) rfl (by decide) (b_ine_f (pc := 18) rw_237_18 (A := 0) rfl (by decide) (to_c (pc := 21) rw_237_21 (x := (-1 : Int32)) rfl rfl (to_r0 (pc := 22) rw_237_22 ?_))))
          have k_280 : (-1 : Int32).toInt = -1 := rfl
          exact h (-1 : Int32) M266 hG267 F268 
        · refine to_c (pc := 12) rw_180_12 (x := (1 : Int32)) rfl rfl (to_go (pc := 13) rw_180_13 (s_r1 (pc := 17) rw_180_17 (A := 1) rfl (by decide) (b_ine_t (pc := 18) rw_237_18 (A := 1) rfl (by decide) (to_an (pc := 23) rw_237_23 rfl (to_in (pc := 24) rw_237_24 rfl (s_v (pc := 25) rw_237_25 (dp0 hd (by decide)) (ls0 := [.ref 77, .int n, .null, .null]) rfl (Nat.le_of_ble_eq_true rfl) (Nat.le_of_ble_eq_true rfl) rfl (to_rc rfl rfl rfl (g_o hG267 rfl)) rfl ?_))))))
          have t_281 : (M266.2.1 77 29).toInt = (M.2.1 77 29).toInt := congrArg Int32.toInt c_271
          have j_282 := (NJ_f (fun a i z => W_n W265 (by /-r77,2-/ omega) rfl) q1)
          refine C_189 hX (dp1 hd (by decide)) hG267 (by omega) (by omega) (by omega) j_282 (n := n) (fun M285 hG284 F283 => ?_)
          have F286 := FR.c F268 F283 tg_357
          refine to_an (pc := 28) rw_237_28 rfl (s_gR (pc := 29) rw_237_29 hG284 rfl (v := 86) rfl (to_in (pc := 32) rw_237_32 rfl (s_ial (pc := 33) rw_237_33 hG284 rfl (n := 24) rfl rfl (A := w.toInt) rfl (by omega) (by omega) (lo := 0) (hi := 7) rfl rfl (fun v287 w_288 _ _ => ?_))))
          have c_289 : M285.2.1 77 13 = (M.2.1 77 13) := (F_n F283 (show ¬ (94 ≤ 77 ∧ 77 ≤ 98) by decide) c_277)
          have t_290 : (M285.2.1 77 13).toInt = (M.2.1 77 13).toInt := congrArg Int32.toInt c_289
          have j_292 := (WC_f (tg_355 F283) (WC_f (fun a i z => W_n W265 (by /-r77,2-/ omega) rfl) q3))
          have s_291 := WC_u (A := w.toInt) j_292 (by omega) (by omega) (by omega) w_288
          refine to_isn (pc := 34) rw_237_34 (ls2 := [.ref 77, .int n, .int w, .int v287, .null, .null, .null, .null, .null, .null, .null, .null, .null, .null]) rfl rfl (to_an (pc := 35) rw_237_35 rfl (s_gR (pc := 36) rw_237_36 hG284 rfl (v := 84) rfl (to_in (pc := 39) rw_237_39 rfl (s_ial (pc := 40) rw_237_40 hG284 rfl (n := 16) rfl rfl (A := v287.toInt) rfl (by omega) (by omega) (lo := 0) (hi := 24) rfl rfl (fun v293 w_294 _ _ => ?_)))))
          have t_295 := congrArg Int32.toInt w_294
          have j_297 := (FA_f (tg_346 F283) (FA_f (fun a i z => W_n W265 (tg_94 a i z) rfl) q2))
          have j_296 := FA_u j_297 (v287.toInt).toNat
          refine to_is (pc := 41) rw_237_41 (ls2 := [.ref 77, .int n, .int w, .int v287, .int v293, .null, .null, .null, .null, .null, .null, .null, .null, .null]) rfl rfl (to_c (pc := 43) rw_237_43 (x := (-1 : Int32)) rfl rfl (to_is (pc := 44) rw_237_44 (ls2 := [.ref 77, .int n, .int w, .int v287, .int v293, .int (-1 : Int32), .null, .null, .null, .null, .null, .null, .null, .null]) rfl rfl (to_c (pc := 46) rw_237_46 (x := (0 : Int32)) rfl rfl (to_is (pc := 47) rw_237_47 (ls2 := [.ref 77, .int n, .int w, .int v287, .int v293, .int (-1 : Int32), .int (0 : Int32), .null, .null, .null, .null, .null, .null, .null]) rfl rfl (to_c (pc := 49) rw_237_49 (x := (0 : Int32)) rfl rfl (to_is (pc := 50) rw_237_50 (ls2 := [.ref 77, .int n, .int w, .int v287, .int v293, .int (-1 : Int32), .int (0 : Int32), .int (0 : Int32), .null, .null, .null, .null, .null, .null]) rfl rfl (to_c (pc := 52) rw_237_52 (x := (0 : Int32)) rfl rfl (to_is (pc := 53) rw_237_53 (ls2 := [.ref 77, .int n, .int w, .int v287, .int v293, .int (-1 : Int32), .int (0 : Int32), .int (0 : Int32), .int (0 : Int32), .null, .null, .null, .null, .null]) rfl rfl ?_))))))))
          have k_298 : (-1 : Int32).toInt = -1 := rfl
          have k_299 : (0 : Int32).toInt = 0 := rfl
          have t_300 : (M285.2.1 83 (v287.toInt).toNat).toInt = (M.2.1 83 (v287.toInt).toNat).toInt := congrArg Int32.toInt (F_n F283 (show ¬ (94 ≤ 83 ∧ 83 ≤ 98) by decide) (W_n W265 (by omega) rfl))
          have t_301 : (M285.2.1 82 (v287.toInt).toNat).toInt = (M.2.1 82 (v287.toInt).toNat).toInt := congrArg Int32.toInt (F_n F283 (show ¬ (94 ≤ 82 ∧ 82 ≤ 98) by decide) (W_n W265 (by omega) rfl))
          exact (T_237_1 (n := n) (w := w) hX hd q1 q2 q3 h ((4 - (0 : Int32).toInt).toNat + 1)) M285 (.int n) v287 v293 (-1 : Int32) (0 : Int32) (0 : Int32) (0 : Int32) (.null) (.null) (.null) (.null) (.null) hG284 F286 (by omega) (by omega) (by omega) (by omega) (by omega) (by omega) (by omega) (by omega) (by omega) (fun i z => absurd z (by omega)) (by omega)
end
section
theorem tg_358 : ∀ a i : Nat, (a < 0) → (a = 123) := fun a i z => by omega
theorem tg_359 : ∀ a i : Nat, (a = 121 ∨ a = 122) → (a = 77 ∧ i = 2 ∨ 94 ≤ a ∧ a ≤ 98 ∨ 121 ≤ a ∧ a ≤ 124) := fun a i z => by omega
theorem tg_360 : ∀ a i : Nat, (a = 123) → (a = 77 ∧ i = 2 ∨ 94 ≤ a ∧ a ≤ 98 ∨ 121 ≤ a ∧ a ≤ 124) := fun a i z => by omega
theorem tg_361 : ∀ a i : Nat, (a < 0) → (a = 77 ∧ i = 2 ∨ 94 ≤ a ∧ a ≤ 98 ∨ 121 ≤ a ∧ a ≤ 124) := fun a i z => by omega
theorem tg_362 : ∀ a i : Nat, (94 ≤ a ∧ a ≤ 98) → (a = 77 ∧ i = 2 ∨ 94 ≤ a ∧ a ≤ 98 ∨ 121 ≤ a ∧ a ≤ 124) := fun a i z => by omega
set_option maxRecDepth 4000 in
set_option maxHeartbeats 0 in
theorem T_244_0 {X : mm_X} {d : Nat} {M : mm_M} {Q : Option Value → mm_M → Prop} {n : Int32} {l : Int32} (hX : g_X X) (hd : 2 ≤ d) (q1 : 0 ≤ n.toInt) (q2 : n.toInt ≤ 6) (q3 : 1 ≤ l.toInt) (q4 : l.toInt ≤ 6) (h : ∀ (r : Int32) (M1 : mm_M), g_G M1 → FR md_ro M M1 → (0 ≤ r.toInt) → (r.toInt ≤ 1) → (r.toInt = 1 → NV M l.toInt (n.toInt).toNat + 1 ≤ NV M1 l.toInt (n.toInt).toNat) → Q (some (.int r)) M1) : ∀ nn9 : Nat, (∀ (N : mm_M) (u3 : Value) (x4 : Int32) (x5 : Int32) (u6 : Value) (u7 : Value) (u8 : Value), g_G N → FR md_ro M N → (0 ≤ x5.toInt) → (x5.toInt ≤ 46656) → (1 ≤ x4.toInt) → (x4.toInt ≤ 46656) → (NV M l.toInt (n.toInt).toNat + 1 ≤ x5.toInt) → (x4.toInt = (l.toInt) ^ (n.toInt).toNat) → (46657 - x5.toInt) * 100 + 50 < (nn9 : Int) → mm_T X d 243 58 [.ref 77, .int n, .int l, u3, .int x4, .int x5, u6, u7, u8] [] N Q) ∧ (∀ (N : mm_M) (u3 : Value) (x4 : Int32) (x5 : Int32) (x6 : Int32) (x7 : Int32) (x8 : Int32), g_G N → FR md_ro M N → (0 ≤ x5.toInt) → (x5.toInt ≤ 46655) → (x5.toInt < x4.toInt) → (1 ≤ x4.toInt) → (x4.toInt ≤ 46656) → (-1 ≤ x8.toInt) → (x8.toInt ≤ 5) → (x8.toInt < n.toInt) → (0 ≤ x6.toInt) → (x6.toInt ≤ 46656) → (NV M l.toInt (n.toInt).toNat + 1 ≤ x5.toInt) → (x4.toInt = (l.toInt) ^ (n.toInt).toNat) → (x5.toInt = x6.toInt * (l.toInt) ^ ((n.toInt).toNat - (x8.toInt + 1).toNat) + DV N l.toInt (x8.toInt + 1).toNat ((n.toInt).toNat - (x8.toInt + 1).toNat)) → (46657 - x5.toInt) * 100 + 10 + x8.toInt < (nn9 : Int) → mm_T X d 243 77 [.ref 77, .int n, .int l, u3, .int x4, .int x5, .int x6, .int x7, .int x8] [] N Q) := by
  intro nn9
  induction nn9 with
  | zero =>
    refine ⟨?_, ?_⟩
    · intro N u3 x4 x5 u6 u7 u8 hG F0 g1 g2 g3 g4 g5 g6 hm
      exfalso; omega
    · intro N u3 x4 x5 x6 x7 x8 hG F0 g1 g2 g3 g4 g5 g6 g7 g8 g9 g10 g11 g12 g13 hm
      exfalso; omega
  | succ nn9 ih =>
    refine ⟨?_, ?_⟩
    · intro N u3 x4 x5 u6 u7 u8 hG F0 g1 g2 g3 g4 g5 g6 hm
      refine to_i (pc := 58) rw_244_58 rfl (to_i (pc := 60) rw_244_60 rfl (b_cge (pc := 62) rw_244_62 (A := x5.toInt) (B := x4.toInt) rfl rfl (fun h1 => ?_) (fun h1 => ?_)))
      · refine to_c (pc := 137) rw_244_137 (x := (0 : Int32)) rfl rfl (s_r1 (pc := 138) rw_244_138 (A := 0) rfl (by decide) ?_)
        have k_2 : (0 : Int32).toInt = 0 := rfl
        exact h (0 : Int32) N hG F0 (by decide) (by decide) (fun z => absurd z (by omega))
      · refine to_i (pc := 65) rw_244_65 rfl (to_is (pc := 67) rw_244_67 (ls2 := [.ref 77, .int n, .int l, u3, .int x4, .int x5, .int x5, u7, u8]) rfl rfl (to_c (pc := 69) rw_244_69 (x := (0 : Int32)) rfl rfl (to_is (pc := 70) rw_244_70 (ls2 := [.ref 77, .int n, .int l, u3, .int x4, .int x5, .int x5, .int (0 : Int32), u8]) rfl rfl (to_in (pc := 72) rw_244_72 rfl (to_c (pc := 73) rw_244_73 (x := (1 : Int32)) rfl rfl (s_sub (pc := 74) rw_244_74 (A := n.toInt) (B := 1) rfl rfl (by omega) (fun v3 e4 => to_is (pc := 75) rw_244_75 (ls2 := [.ref 77, .int n, .int l, u3, .int x4, .int x5, .int x5, .int (0 : Int32), .int v3]) rfl rfl ?_)))))))
        have k_5 : (0 : Int32).toInt = 0 := rfl
        have s_6 := g5
        exact ih.2 N (u3) x4 x5 x5 (0 : Int32) v3 hG F0 (by omega) (by omega) (by omega) (by omega) (by omega) (by omega) (by omega) (by omega) (by omega) (by omega) (by omega) g6 (by rw [show (n.toInt).toNat - (v3.toInt + 1).toNat = 0 by omega, Int.pow_zero]; show _ = _ * 1 + 0; omega) (by omega)
    · intro N u3 x4 x5 x6 x7 x8 hG F0 g1 g2 g3 g4 g5 g6 g7 g8 g9 g10 g11 g12 g13 hm
      refine to_i (pc := 77) rw_244_77 rfl (b_ilt (pc := 79) rw_244_79 (A := x8.toInt) rfl (fun h7 => ?_) (fun h7 => ?_))
      · refine to_i (pc := 119) rw_244_119 rfl (s_i2l (pc := 121) rw_244_121 (fun l8 e9 => s_s (pc := 122) rw_244_122 (dp0 hd (by decide)) (ls0 := [.long l8, .null, .null, .null]) rfl (Nat.le_of_ble_eq_true rfl) (Nat.le_of_ble_eq_true rfl) rfl (to_rcs rfl rfl) rfl (C_151 hX (dp1 hd (by decide)) hG (x := l8) (fun r10 M15 hG12 F11 p_13 p_14 => ?_))))
        have F16 := FR.c F0 F11 tg_358
        refine to_in (pc := 125) rw_244_125 rfl (b_cne (pc := 126) rw_244_126 (A := r10.toInt) (B := n.toInt) rfl rfl (fun h17 => ?_) (fun h17 => ?_))
        · refine s_inc (pc := 131) rw_244_131 (ls2 := fun v => [.ref 77, .int n, .int l, u3, .int x4, .int v, .int x6, .int x7, .int x8]) rfl rfl (fun _ => rfl) (A := x5.toInt) (B := 1) rfl rfl (by omega) (fun v18 e19 => to_go (pc := 134) rw_244_134 ?_)
          have s_20 := g11
          exact ih.1 M15 (u3) x4 v18 (.int x6) (.int x7) (.int x8) hG12 F16 (by omega) (by omega) (by omega) (by omega) (by omega) g12 (by omega)
        · refine to_c (pc := 129) rw_244_129 (x := (1 : Int32)) rfl rfl (s_r1 (pc := 130) rw_244_130 (A := 1) rfl (by decide) ?_)
          have k_21 : (1 : Int32).toInt = 1 := rfl
          have s_22 := DV_end hG (l := l.toInt) (n := (n.toInt).toNat) (x := x6.toInt) (v := x5.toInt) (by omega) (by omega) (by have z := g13; rw [show (x8.toInt + 1).toNat = 0 by omega, Nat.sub_zero] at z; exact z) (by omega) (by rw [← g12]; omega)
          have s_23 := g11
          have s_24 : NV M15 l.toInt (n.toInt).toNat = NV N l.toInt (n.toInt).toNat := NV_f (fun i => (F_n F11 (show ¬ (123 < 0) by decide) rfl)) _
          exact h (1 : Int32) M15 hG12 F16 (by decide) (by decide) (fun _ => by omega)
      · refine to_an (pc := 82) rw_244_82 rfl (s_gR (pc := 83) rw_244_83 hG rfl (v := 123) rfl (to_i (pc := 86) rw_244_86 rfl (to_i (pc := 88) rw_244_88 rfl (to_in (pc := 90) rw_244_90 rfl (s_irem (pc := 91) rw_244_91 (A := x6.toInt) (B := l.toInt) rfl rfl (by omega) (by omega) (fun v25 e26 _ => s_ias (pc := 92) rw_244_92 hG rfl (n := 6) rfl (A := x8.toInt) rfl (by omega) (by omega) (fun M28 W27 => ?_)))))))
        have hG29 := g_w hG W27 (A := v25.toInt) rfl (lo := 0) (hi := 5) rfl rfl (by omega) (by decide)
        have F30 := FR.w F0 W27 (show 123 = 123 by decide)
        refine to_i (pc := 93) rw_244_93 rfl (to_c (pc := 95) rw_244_95 (x := (1 : Int32)) rfl rfl (to_an (pc := 96) rw_244_96 rfl (s_gR (pc := 97) rw_244_97 hG29 rfl (v := 123) rfl (to_i (pc := 100) rw_244_100 rfl (s_ialk (pc := 102) rw_244_102 hG29 rfl (n := 6) rfl rfl (A := x8.toInt) rfl (by omega) (by omega) (v := v25) (W_e W27) (s_shl1 (pc := 103) rw_244_103 (B := v25.toInt) rfl (by omega) (fun v33 _ _ => s_any (pc := 104) rw_244_104 (fun _ _ => rfl) (fun v34 => to_is (pc := 105) rw_244_105 (ls2 := [.ref 77, .int n, .int l, u3, .int x4, .int x5, .int x6, .int v34, .int x8]) rfl rfl (to_i (pc := 107) rw_244_107 rfl (to_in (pc := 109) rw_244_109 rfl (s_idiv (pc := 110) rw_244_110 (A := x6.toInt) (B := l.toInt) rfl rfl (by omega) (by omega) (fun v35 e36 _ => ?_))))))))))))
        refine to_is (pc := 111) rw_244_111 (ls2 := [.ref 77, .int n, .int l, u3, .int x4, .int x5, .int v35, .int v34, .int x8]) rfl rfl (s_inc (pc := 113) rw_244_113 (ls2 := fun v => [.ref 77, .int n, .int l, u3, .int x4, .int x5, .int v35, .int v34, .int v]) rfl rfl (fun _ => rfl) (A := x8.toInt) (B := -1) rfl rfl (by omega) (fun v37 e38 => to_go (pc := 116) rw_244_116 ?_))
        have s_39 := g11
        exact ih.2 M28 (u3) x4 x5 v35 v34 v37 hG29 F30 (by omega) (by omega) (by omega) (by omega) (by omega) (by omega) (by omega) (by omega) (by omega) (by omega) (by omega) g12 (by rw [show (v37.toInt + 1).toNat = (x8.toInt).toNat by omega, show (n.toInt).toNat - (x8.toInt).toNat = ((n.toInt).toNat - (x8.toInt + 1).toNat) + 1 by omega]; exact DV_step (by rw [show (x8.toInt).toNat + 1 = (x8.toInt + 1).toNat by omega]; exact g13) e36 e26 (fun a z => (W_n W27 (by omega) rfl)) (by rw [(W_e W27)])) (by omega)
set_option maxRecDepth 4000 in
set_option maxHeartbeats 0 in
theorem T_244_1 {X : mm_X} {d : Nat} {M : mm_M} {Q : Option Value → mm_M → Prop} {n : Int32} {l : Int32} (hX : g_X X) (hd : 2 ≤ d) (q1 : 0 ≤ n.toInt) (q2 : n.toInt ≤ 6) (q3 : 1 ≤ l.toInt) (q4 : l.toInt ≤ 6) (h : ∀ (r : Int32) (M1 : mm_M), g_G M1 → FR md_ro M M1 → (0 ≤ r.toInt) → (r.toInt ≤ 1) → (r.toInt = 1 → NV M l.toInt (n.toInt).toNat + 1 ≤ NV M1 l.toInt (n.toInt).toNat) → Q (some (.int r)) M1) : ∀ nn9 : Nat, (∀ (N : mm_M) (x3 : Int32) (x4 : Int32) (x5 : Int32) (u6 : Value) (u7 : Value) (u8 : Value), g_G N → FR md_ro M N → (1 ≤ x4.toInt) → (x4.toInt ≤ 46656) → (0 ≤ x5.toInt) → (x5.toInt ≤ 6) → (x5.toInt ≤ n.toInt) → (0 ≤ x3.toInt) → (x3.toInt ≤ 46655) → (x4.toInt = (l.toInt) ^ (x5.toInt).toNat) → (x3.toInt = NV M l.toInt (n.toInt).toNat) → 6 - x5.toInt < (nn9 : Int) → mm_T X d 243 35 [.ref 77, .int n, .int l, .int x3, .int x4, .int x5, u6, u7, u8] [] N Q) := by
  intro nn9
  induction nn9 with
  | zero =>
    intro N x3 x4 x5 u6 u7 u8 hG F0 g1 g2 g3 g4 g5 g6 g7 g8 g9 hm
    exfalso; omega
  | succ nn9 ih =>
    intro N x3 x4 x5 u6 u7 u8 hG F0 g1 g2 g3 g4 g5 g6 g7 g8 g9 hm
    refine to_i (pc := 35) rw_244_35 rfl (to_in (pc := 37) rw_244_37 rfl (b_cge (pc := 38) rw_244_38 (A := x5.toInt) (B := n.toInt) rfl rfl (fun h40 => ?_) (fun h40 => ?_)))
    · refine to_in (pc := 53) rw_244_53 rfl (to_c (pc := 54) rw_244_54 (x := (1 : Int32)) rfl rfl (s_add (pc := 55) rw_244_55 (A := x3.toInt) (B := 1) rfl rfl (by omega) (fun v41 e42 => to_is (pc := 56) rw_244_56 (ls2 := [.ref 77, .int n, .int l, .int x3, .int x4, .int v41, u6, u7, u8]) rfl rfl ?_)))
      exact (T_244_0 (n := n) (l := l) hX hd q1 q2 q3 q4 h (((46657 - v41.toInt) * 100 + 50).toNat + 1)).1 N (.int x3) x4 v41 (u6) (u7) (u8) hG F0 (by omega) (by omega) (by omega) (by omega) (by rw [← g9]; omega) (by rw [show (n.toInt).toNat = (x5.toInt).toNat by omega]; exact g8) (by omega)
    · refine to_i (pc := 41) rw_244_41 rfl (to_in (pc := 43) rw_244_43 rfl ?_)
      have m_45 := mul_r (A := x4.toInt) (B := l.toInt) (a := 46656) (b := 6) (by omega) (by omega)
      refine s_mul (pc := 44) rw_244_44 (A := x4.toInt) (B := l.toInt) rfl rfl (by omega) (fun v43 e44 => to_is (pc := 45) rw_244_45 (ls2 := [.ref 77, .int n, .int l, .int x3, .int v43, .int x5, u6, u7, u8]) rfl rfl (s_inc (pc := 47) rw_244_47 (ls2 := fun v => [.ref 77, .int n, .int l, .int x3, .int v43, .int v, u6, u7, u8]) rfl rfl (fun _ => rfl) (A := x5.toInt) (B := 1) rfl rfl (by omega) (fun v46 e47 => to_go (pc := 50) rw_244_50 ?_)))
      have s_48 : l.toInt ^ (v46.toInt).toNat = l.toInt ^ (x5.toInt).toNat * l.toInt := by rw [show (v46.toInt).toNat = (x5.toInt).toNat + 1 by omega]; exact Int.pow_succ _ _
      have s_49 : x4.toInt * l.toInt = l.toInt ^ (x5.toInt).toNat * l.toInt := by rw [g8]
      have s_50 := pl_6 (l := l.toInt) (by omega) (by omega) (k := (v46.toInt).toNat) (by omega)
      exact ih N x3 v43 v46 (u6) (u7) (u8) hG F0 (by omega) (by omega) (by omega) (by omega) (by omega) (by omega) (by omega) (by omega) g9 (by omega)
set_option maxRecDepth 4000 in
set_option maxHeartbeats 0 in
theorem T_244_2 {X : mm_X} {d : Nat} {M : mm_M} {Q : Option Value → mm_M → Prop} {n : Int32} {l : Int32} (hX : g_X X) (hd : 2 ≤ d) (q1 : 0 ≤ n.toInt) (q2 : n.toInt ≤ 6) (q3 : 1 ≤ l.toInt) (q4 : l.toInt ≤ 6) (h : ∀ (r : Int32) (M1 : mm_M), g_G M1 → FR md_ro M M1 → (0 ≤ r.toInt) → (r.toInt ≤ 1) → (r.toInt = 1 → NV M l.toInt (n.toInt).toNat + 1 ≤ NV M1 l.toInt (n.toInt).toNat) → Q (some (.int r)) M1) : ∀ nn9 : Nat, (∀ (N : mm_M) (x3 : Int32) (x4 : Int32) (u5 : Value) (u6 : Value) (u7 : Value) (u8 : Value), g_G N → FR md_ro M N → (0 ≤ x4.toInt) → (x4.toInt ≤ 6) → (x4.toInt ≤ n.toInt) → (0 ≤ x3.toInt) → (x3.toInt ≤ 46655) → (x3.toInt = NV N l.toInt (x4.toInt).toNat) → (NV N l.toInt (n.toInt).toNat = NV M l.toInt (n.toInt).toNat) → 6 - x4.toInt < (nn9 : Int) → mm_T X d 243 5 [.ref 77, .int n, .int l, .int x3, .int x4, u5, u6, u7, u8] [] N Q) := by
  intro nn9
  induction nn9 with
  | zero =>
    intro N x3 x4 u5 u6 u7 u8 hG F0 g1 g2 g3 g4 g5 g6 g7 hm
    exfalso; omega
  | succ nn9 ih =>
    intro N x3 x4 u5 u6 u7 u8 hG F0 g1 g2 g3 g4 g5 g6 g7 hm
    refine to_i (pc := 5) rw_244_5 rfl (to_in (pc := 7) rw_244_7 rfl (b_cge (pc := 8) rw_244_8 (A := x4.toInt) (B := n.toInt) rfl rfl (fun h51 => ?_) (fun h51 => ?_)))
    · refine to_c (pc := 29) rw_244_29 (x := (1 : Int32)) rfl rfl (to_is (pc := 30) rw_244_30 (ls2 := [.ref 77, .int n, .int l, .int x3, .int (1 : Int32), u5, u6, u7, u8]) rfl rfl (to_c (pc := 32) rw_244_32 (x := (0 : Int32)) rfl rfl (to_is (pc := 33) rw_244_33 (ls2 := [.ref 77, .int n, .int l, .int x3, .int (1 : Int32), .int (0 : Int32), u6, u7, u8]) rfl rfl ?_)))
      have k_52 : (1 : Int32).toInt = 1 := rfl
      have k_53 : (0 : Int32).toInt = 0 := rfl
      have s_54 : l.toInt ^ ((0 : Int32).toInt).toNat = 1 := Int.pow_zero _
      exact (T_244_1 (n := n) (l := l) hX hd q1 q2 q3 q4 h ((6 - (0 : Int32).toInt).toNat + 1)) N x3 (1 : Int32) (0 : Int32) (u6) (u7) (u8) hG F0 (by omega) (by omega) (by omega) (by omega) (by omega) (by omega) (by omega) (by omega) (by rw [← g7, show (n.toInt).toNat = (x4.toInt).toNat by omega]; exact g6) (by omega)
    · refine to_in (pc := 11) rw_244_11 rfl (to_in (pc := 12) rw_244_12 rfl ?_)
      have m_57 := mul_r (A := l.toInt) (B := x3.toInt) (a := 6) (b := 46655) (by omega) (by omega)
      refine s_mul (pc := 13) rw_244_13 (A := l.toInt) (B := x3.toInt) rfl rfl (by omega) (fun v55 e56 => to_an (pc := 14) rw_244_14 rfl (s_gR (pc := 15) rw_244_15 hG rfl (v := 123) rfl (to_i (pc := 18) rw_244_18 rfl (s_ial (pc := 20) rw_244_20 hG rfl (n := 6) rfl rfl (A := x4.toInt) rfl (by omega) (by omega) (lo := 0) (hi := 5) rfl rfl (fun v58 w_59 _ _ => ?_)))))
      have t_60 := congrArg Int32.toInt w_59
      refine s_add (pc := 21) rw_244_21 (A := v55.toInt) (B := v58.toInt) rfl rfl (by omega) (fun v61 e62 => to_isn (pc := 22) rw_244_22 (ls2 := [.ref 77, .int n, .int l, .int v61, .int x4, u5, u6, u7, u8]) rfl rfl (s_inc (pc := 23) rw_244_23 (ls2 := fun v => [.ref 77, .int n, .int l, .int v61, .int v, u5, u6, u7, u8]) rfl rfl (fun _ => rfl) (A := x4.toInt) (B := 1) rfl rfl (by omega) (fun v63 e64 => to_go (pc := 26) rw_244_26 ?_)))
      have s_65 : NV N l.toInt (v63.toInt).toNat = l.toInt * NV N l.toInt (x4.toInt).toNat + (N.2.1 123 (x4.toInt).toNat).toInt := by rw [show (v63.toInt).toNat = (x4.toInt).toNat + 1 by omega]; rfl
      have s_66 : l.toInt * x3.toInt = l.toInt * NV N l.toInt (x4.toInt).toNat := by rw [g6]
      have s_67 := NV_b hG (l := l.toInt) (by omega) (by omega) (k := (v63.toInt).toNat) (by omega)
      exact ih N v61 v63 (u5) (u6) (u7) (u8) hG F0 (by omega) (by omega) (by omega) (by omega) (by omega) (by omega) g7 (by omega)
set_option maxRecDepth 4000 in
set_option maxHeartbeats 0 in
theorem C_244 {X : mm_X} {d : Nat} {M : mm_M} {Q : Option Value → mm_M → Prop} {n : Int32} {l : Int32} (hX : g_X X) (hd : 2 ≤ d) (hG : g_G M) (q1 : 0 ≤ n.toInt) (q2 : n.toInt ≤ 6) (q3 : 1 ≤ l.toInt) (q4 : l.toInt ≤ 6) (h : ∀ (r : Int32) (M1 : mm_M), g_G M1 → FR md_ro M M1 → (0 ≤ r.toInt) → (r.toInt ≤ 1) → (r.toInt = 1 → NV M l.toInt (n.toInt).toNat + 1 ≤ NV M1 l.toInt (n.toInt).toNat) → Q (some (.int r)) M1) : mm_T X d 243 0 [.ref 77, .int n, .int l, .null, .null, .null, .null, .null, .null] [] M Q := by
  have F0 : FR md_ro M M := FR.rf
  refine to_c (pc := 0) rw_244_0 (x := (0 : Int32)) rfl rfl (to_isn (pc := 1) rw_244_1 (ls2 := [.ref 77, .int n, .int l, .int (0 : Int32), .null, .null, .null, .null, .null]) rfl rfl (to_c (pc := 2) rw_244_2 (x := (0 : Int32)) rfl rfl (to_is (pc := 3) rw_244_3 (ls2 := [.ref 77, .int n, .int l, .int (0 : Int32), .int (0 : Int32), .null, .null, .null, .null]) rfl rfl ?_)))
  have k_68 : (0 : Int32).toInt = 0 := rfl
  have s_69 : NV M l.toInt ((0 : Int32).toInt).toNat = 0 := rfl
  exact (T_244_2 (n := n) (l := l) hX hd q1 q2 q3 q4 h ((6 - (0 : Int32).toInt).toNat + 1)) M (0 : Int32) (0 : Int32) (.null) (.null) (.null) (.null) hG F0 (by omega) (by omega) (by omega) (by omega) (by omega) (by omega) rfl (by omega)
set_option maxRecDepth 4000 in
set_option maxHeartbeats 0 in
theorem T_245_0 {X : mm_X} {d : Nat} {M : mm_M} {Q : Option Value → mm_M → Prop} {p : Int32} {f : Int32} {w : Int32} (hX : g_X X) (hd : 3 ≤ d) (q1 : NJ M) (q2 : FA M) (h : ∀ (r : Int32) (M1 : mm_M), g_G M1 → FR md_st M M1 → Q (some (.int r)) M1) : ∀ nn9 : Nat, (∀ (N : mm_M) (x4 : Int32) (x5 : Int32) (u6 : Value), g_G N → FR md_st M N → (0 ≤ p.toInt) → (p.toInt ≤ 5) → (0 ≤ f.toInt) → (f.toInt ≤ 7) → (1 ≤ x4.toInt) → (x4.toInt ≤ 6) → (0 ≤ w.toInt) → (w.toInt ≤ 6) → (0 ≤ x5.toInt) → (x5.toInt ≤ 7) → (7 - x5.toInt) * 1000000 + 900000 < (nn9 : Int) → mm_T X d 244 124 [.ref 77, .int p, .int f, .int w, .int x4, .int x5, u6] [] N Q) ∧ (∀ (N : mm_M) (x4 : Int32) (x5 : Int32) (x6 : Int32), g_G N → FR md_st M N → (0 ≤ p.toInt) → (p.toInt ≤ 5) → (0 ≤ f.toInt) → (f.toInt ≤ 7) → (1 ≤ x4.toInt) → (x4.toInt ≤ 6) → (0 ≤ w.toInt) → (w.toInt ≤ 6) → (0 ≤ x5.toInt) → (x5.toInt ≤ 6) → (x5.toInt ≤ x4.toInt) → (0 ≤ x6.toInt) → (x6.toInt ≤ 6) → (7 - x5.toInt) * 1000000 + 800000 - x6.toInt < (nn9 : Int) → mm_T X d 244 134 [.ref 77, .int p, .int f, .int w, .int x4, .int x5, .int x6] [] N Q) ∧ (∀ (N : mm_M) (x4 : Int32) (x5 : Int32) (x6 : Int32), g_G N → FR md_st M N → (0 ≤ p.toInt) → (p.toInt ≤ 5) → (0 ≤ f.toInt) → (f.toInt ≤ 7) → (1 ≤ x4.toInt) → (x4.toInt ≤ 6) → (0 ≤ w.toInt) → (w.toInt ≤ 6) → (0 ≤ x5.toInt) → (x5.toInt ≤ 6) → (x5.toInt ≤ x4.toInt) → (0 ≤ x6.toInt) → (x6.toInt ≤ 1) → (True) → (7 - x5.toInt) * 1000000 + NM x6.toInt (NV N x4.toInt (x5.toInt).toNat) < (nn9 : Int) → mm_T X d 244 159 [.ref 77, .int p, .int f, .int w, .int x4, .int x5, .int x6] [] N Q) := by
  intro nn9
  induction nn9 with
  | zero =>
    refine ⟨?_, ?_, ?_⟩
    · intro N x4 x5 u6 hG F0 g1 g2 g3 g4 g5 g6 g7 g8 g9 g10 hm
      exfalso; omega
    · intro N x4 x5 x6 hG F0 g1 g2 g3 g4 g5 g6 g7 g8 g9 g10 g11 g12 g13 hm
      exfalso; omega
    · intro N x4 x5 x6 hG F0 g1 g2 g3 g4 g5 g6 g7 g8 g9 g10 g11 g12 g13 g14 hm
      have s_1 := NV_b hG (l := x4.toInt) (by omega) (by omega) (k := (x5.toInt).toNat) (by omega)
      have s_2 : x6.toInt = 0 → NM x6.toInt (NV N x4.toInt (x5.toInt).toNat) = 0 := NM_0
      have s_3 : x6.toInt = 1 → NM x6.toInt (NV N x4.toInt (x5.toInt).toNat) = 100000 - NV N x4.toInt (x5.toInt).toNat := NM_1
      exfalso; omega
  | succ nn9 ih =>
    refine ⟨?_, ?_, ?_⟩
    · intro N x4 x5 u6 hG F0 g1 g2 g3 g4 g5 g6 g7 g8 g9 g10 hm
      refine to_i (pc := 124) rw_245_124 rfl (to_i (pc := 126) rw_245_126 rfl (b_cgt (pc := 128) rw_245_128 (A := x5.toInt) (B := x4.toInt) rfl rfl (fun h4 => ?_) (fun h4 => ?_)))
      · refine to_c (pc := 229) rw_245_229 (x := (-2 : Int32)) rfl rfl (to_r0 (pc := 231) rw_245_231 ?_)
        have k_5 : (-2 : Int32).toInt = -2 := rfl
        exact h (-2 : Int32) N hG F0 
      · refine to_c (pc := 131) rw_245_131 (x := (0 : Int32)) rfl rfl (to_is (pc := 132) rw_245_132 (ls2 := [.ref 77, .int p, .int f, .int w, .int x4, .int x5, .int (0 : Int32)]) rfl rfl ?_)
        have k_6 : (0 : Int32).toInt = 0 := rfl
        exact ih.2.1 N x4 x5 (0 : Int32) hG F0 (by omega) (by omega) (by omega) (by omega) (by omega) (by omega) (by omega) (by omega) (by omega) (by omega) (by omega) (by omega) (by omega) (by omega)
    · intro N x4 x5 x6 hG F0 g1 g2 g3 g4 g5 g6 g7 g8 g9 g10 g11 g12 g13 hm
      refine to_i (pc := 134) rw_245_134 rfl (to_i (pc := 136) rw_245_136 rfl (b_cge (pc := 138) rw_245_138 (A := x6.toInt) (B := x5.toInt) rfl rfl (fun h7 => ?_) (fun h7 => ?_)))
      · refine to_c (pc := 156) rw_245_156 (x := (1 : Int32)) rfl rfl (to_is (pc := 157) rw_245_157 (ls2 := [.ref 77, .int p, .int f, .int w, .int x4, .int x5, .int (1 : Int32)]) rfl rfl ?_)
        have k_8 : (1 : Int32).toInt = 1 := rfl
        have s_9 := NV_b hG (l := x4.toInt) (by omega) (by omega) (k := (x5.toInt).toNat) (by omega)
        have s_10 : (1 : Int32).toInt = 0 → NM (1 : Int32).toInt (NV N x4.toInt (x5.toInt).toNat) = 0 := NM_0
        have s_11 : (1 : Int32).toInt = 1 → NM (1 : Int32).toInt (NV N x4.toInt (x5.toInt).toNat) = 100000 - NV N x4.toInt (x5.toInt).toNat := NM_1
        exact ih.2.2 N x4 x5 (1 : Int32) hG F0 (by omega) (by omega) (by omega) (by omega) (by omega) (by omega) (by omega) (by omega) (by omega) (by omega) (by omega) (by omega) (by omega) trivial (by omega)
      · refine to_an (pc := 141) rw_245_141 rfl (s_gR (pc := 142) rw_245_142 hG rfl (v := 123) rfl (to_i (pc := 145) rw_245_145 rfl (to_i (pc := 147) rw_245_147 rfl (s_ias (pc := 149) rw_245_149 hG rfl (n := 6) rfl (A := x6.toInt) rfl (by omega) (by omega) (fun M13 W12 => ?_)))))
        have hG14 := g_w hG W12 (A := x6.toInt) rfl (lo := 0) (hi := 5) rfl rfl (by omega) (by decide)
        have F15 := FR.w F0 W12 (show 123 = 77 ∧ (x6.toInt).toNat = 2 ∨ 94 ≤ 123 ∧ 123 ≤ 98 ∨ 121 ≤ 123 ∧ 123 ≤ 124 by omega)
        refine s_inc (pc := 150) rw_245_150 (ls2 := fun v => [.ref 77, .int p, .int f, .int w, .int x4, .int x5, .int v]) rfl rfl (fun _ => rfl) (A := x6.toInt) (B := 1) rfl rfl (by omega) (fun v16 e17 => to_go (pc := 153) rw_245_153 ?_)
        exact ih.2.1 M13 x4 x5 v16 hG14 F15 (by omega) (by omega) (by omega) (by omega) (by omega) (by omega) (by omega) (by omega) (by omega) (by omega) (by omega) (by omega) (by omega) (by omega)
    · intro N x4 x5 x6 hG F0 g1 g2 g3 g4 g5 g6 g7 g8 g9 g10 g11 g12 g13 g14 hm
      have s_18 := NV_b hG (l := x4.toInt) (by omega) (by omega) (k := (x5.toInt).toNat) (by omega)
      have s_19 : x6.toInt = 0 → NM x6.toInt (NV N x4.toInt (x5.toInt).toNat) = 0 := NM_0
      have s_20 : x6.toInt = 1 → NM x6.toInt (NV N x4.toInt (x5.toInt).toNat) = 100000 - NV N x4.toInt (x5.toInt).toNat := NM_1
      refine to_i (pc := 159) rw_245_159 rfl (b_ieq (pc := 161) rw_245_161 (A := x6.toInt) rfl (fun h21 => ?_) (fun h21 => ?_))
      · refine s_inc (pc := 223) rw_245_223 (ls2 := fun v => [.ref 77, .int p, .int f, .int w, .int x4, .int v, .int x6]) rfl rfl (fun _ => rfl) (A := x5.toInt) (B := 1) rfl rfl (by omega) (fun v22 e23 => to_go (pc := 226) rw_245_226 ?_)
        exact ih.1 N x4 v22 (.int x6) hG F0 (by omega) (by omega) (by omega) (by omega) (by omega) (by omega) (by omega) (by omega) (by omega) (by omega) (by omega)
      · refine to_an (pc := 164) rw_245_164 rfl (to_in (pc := 165) rw_245_165 rfl (to_in (pc := 166) rw_245_166 rfl (to_i (pc := 167) rw_245_167 rfl (s_v (pc := 169) rw_245_169 (dp0 hd (by decide)) (ls0 := [.ref 77, .int p, .int f, .int x5, .null, .null, .null, .null]) rfl (Nat.le_of_ble_eq_true rfl) (Nat.le_of_ble_eq_true rfl) rfl (to_rc rfl rfl rfl (g_o hG rfl)) rfl (C_243 hX (dp1 hd (by decide)) hG (by omega) (by omega) (by omega) (by omega) (by omega) (by omega) (p := p) (f := f) (n := x5) (fun r24 M29 hG26 F25 p_27 p_28 => ?_))))))
        have F30 := FR.c F0 F25 tg_359
        refine b_ieq (pc := 172) rw_245_172 (A := r24.toInt) rfl (fun h31 => ?_) (fun h31 => ?_)
        · refine to_an (pc := 210) rw_245_210 rfl (to_i (pc := 211) rw_245_211 rfl (to_i (pc := 213) rw_245_213 rfl (s_v (pc := 215) rw_245_215 (dp0 hd (by decide)) (ls0 := [.ref 77, .int x5, .int x4, .null, .null, .null, .null, .null, .null]) rfl (Nat.le_of_ble_eq_true rfl) (Nat.le_of_ble_eq_true rfl) rfl (to_rc rfl rfl rfl (g_o hG26 rfl)) rfl (C_244 hX (dp1 hd (by decide)) hG26 (by omega) (by omega) (by omega) (by omega) (n := x5) (l := x4) (fun r32 M38 hG34 F33 p_35 p_36 p_37 => ?_)))))
          have F39 := FR.c F30 F33 tg_360
          refine to_is (pc := 218) rw_245_218 (ls2 := [.ref 77, .int p, .int f, .int w, .int x4, .int x5, .int r32]) rfl rfl (to_go (pc := 220) rw_245_220 ?_)
          have s_40 := NV_b hG34 (l := x4.toInt) (by omega) (by omega) (k := (x5.toInt).toNat) (by omega)
          have s_41 : r32.toInt = 0 → NM r32.toInt (NV M38 x4.toInt (x5.toInt).toNat) = 0 := NM_0
          have s_42 : r32.toInt = 1 → NM r32.toInt (NV M38 x4.toInt (x5.toInt).toNat) = 100000 - NV M38 x4.toInt (x5.toInt).toNat := NM_1
          have s_43 := p_37
          have s_44 : NV M29 x4.toInt (x5.toInt).toNat = NV N x4.toInt (x5.toInt).toNat := NV_f (fun i => (F_n F25 (show ¬ (123 = 121 ∨ 123 = 122) by decide) rfl)) _
          exact ih.2.2 M38 x4 x5 r32 hG34 F39 (by omega) (by omega) (by omega) (by omega) (by omega) (by omega) (by omega) (by omega) (by omega) (by omega) (by omega) (by omega) (by omega) trivial (by omega)
        · refine to_in (pc := 175) rw_245_175 rfl (b_ine (pc := 176) rw_245_176 (A := w.toInt) rfl (fun h45 => ?_) (fun h45 => ?_))
          · refine to_in (pc := 184) rw_245_184 rfl (to_i (pc := 185) rw_245_185 rfl (b_cgt (pc := 187) rw_245_187 (A := w.toInt) (B := x5.toInt) rfl rfl (fun h46 => ?_) (fun h46 => ?_)))
            · refine to_c (pc := 208) rw_245_208 (x := (-1 : Int32)) rfl rfl (to_r0 (pc := 209) rw_245_209 ?_)
              have k_47 : (-1 : Int32).toInt = -1 := rfl
              exact h (-1 : Int32) M29 hG26 F30 
            · refine to_an (pc := 190) rw_245_190 rfl (s_gR (pc := 191) rw_245_191 hG26 rfl (v := 82) rfl (to_in (pc := 194) rw_245_194 rfl (s_ial (pc := 195) rw_245_195 hG26 rfl (n := 16) rfl rfl (A := f.toInt) rfl (by omega) (by omega) (lo := 0) (hi := 59) rfl rfl (fun v48 w_49 _ _ => to_an (pc := 196) rw_245_196 rfl (s_gR (pc := 197) rw_245_197 hG26 rfl (v := 123) rfl (to_in (pc := 200) rw_245_200 rfl (to_c (pc := 201) rw_245_201 (x := (1 : Int32)) rfl rfl (s_sub (pc := 202) rw_245_202 (A := w.toInt) (B := 1) rfl rfl (by omega) (fun v50 e51 => s_ial (pc := 203) rw_245_203 hG26 rfl (n := 6) rfl rfl (A := v50.toInt) rfl (by omega) (by omega) (lo := 0) (hi := 5) rfl rfl (fun v52 w_53 _ _ => s_add (pc := 204) rw_245_204 (A := v48.toInt) (B := v52.toInt) rfl rfl (by omega) (fun v54 e55 => to_go (pc := 205) rw_245_205 ?_)))))))))))
              refine to_r0 (pc := 209) rw_245_209 ?_
              exact h v54 M29 hG26 F30 
          · refine to_i (pc := 179) rw_245_179 rfl (to_go (pc := 181) rw_245_181 (to_r0 (pc := 209) rw_245_209 ?_))
            exact h x5 M29 hG26 F30 
set_option maxRecDepth 4000 in
set_option maxHeartbeats 0 in
theorem T_245_1 {X : mm_X} {d : Nat} {M : mm_M} {Q : Option Value → mm_M → Prop} {p : Int32} {f : Int32} {w : Int32} (hX : g_X X) (hd : 3 ≤ d) (q1 : NJ M) (q2 : FA M) (h : ∀ (r : Int32) (M1 : mm_M), g_G M1 → FR md_st M M1 → Q (some (.int r)) M1) : ∀ nn9 : Nat, (∀ (N : mm_M) (x4 : Int32) (x5 : Int32) (u6 : Value), g_G N → FR md_st M N → (0 ≤ p.toInt) → (p.toInt ≤ 5) → (0 ≤ f.toInt) → (f.toInt ≤ 7) → (1 ≤ x4.toInt) → (x4.toInt ≤ 6) → (0 ≤ w.toInt) → (w.toInt ≤ 6) → (0 ≤ x5.toInt) → (x5.toInt ≤ 30) → (30 - x5.toInt) * 100 + 50 < (nn9 : Int) → mm_T X d 244 60 [.ref 77, .int p, .int f, .int w, .int x4, .int x5, u6] [] N Q) ∧ (∀ (N : mm_M) (x4 : Int32) (x5 : Int32) (x6 : Int32), g_G N → FR md_st M N → (0 ≤ p.toInt) → (p.toInt ≤ 5) → (0 ≤ f.toInt) → (f.toInt ≤ 7) → (1 ≤ x4.toInt) → (x4.toInt ≤ 6) → (0 ≤ w.toInt) → (w.toInt ≤ 6) → (0 ≤ x5.toInt) → (x5.toInt ≤ 29) → (0 ≤ x6.toInt) → (x6.toInt ≤ 6) → (30 - x5.toInt) * 100 + 6 - x6.toInt < (nn9 : Int) → mm_T X d 244 72 [.ref 77, .int p, .int f, .int w, .int x4, .int x5, .int x6] [] N Q) := by
  intro nn9
  induction nn9 with
  | zero =>
    refine ⟨?_, ?_⟩
    · intro N x4 x5 u6 hG F0 g1 g2 g3 g4 g5 g6 g7 g8 g9 g10 hm
      exfalso; omega
    · intro N x4 x5 x6 hG F0 g1 g2 g3 g4 g5 g6 g7 g8 g9 g10 g11 g12 hm
      exfalso; omega
  | succ nn9 ih =>
    refine ⟨?_, ?_⟩
    · intro N x4 x5 u6 hG F0 g1 g2 g3 g4 g5 g6 g7 g8 g9 g10 hm
      refine to_i (pc := 60) rw_245_60 rfl (to_an (pc := 62) rw_245_62 rfl ?_)
      have b_56 := g_b hG (a := 77) (i := 28) (lo := 0) (hi := 30) rfl rfl
      refine tt_gI (pc := 63) rw_245_63 (g_o hG rfl) (v := (N.2.1 77 28)) rfl (b_cge (pc := 66) rw_245_66 (A := x5.toInt) (B := (N.2.1 77 28).toInt) rfl rfl (fun h57 => ?_) (fun h57 => ?_))
      · refine to_c (pc := 121) rw_245_121 (x := (0 : Int32)) rfl rfl (to_is (pc := 122) rw_245_122 (ls2 := [.ref 77, .int p, .int f, .int w, .int x4, .int (0 : Int32), u6]) rfl rfl ?_)
        have k_58 : (0 : Int32).toInt = 0 := rfl
        exact (T_245_0 (p := p) (f := f) (w := w) hX hd q1 q2 h (((7 - (0 : Int32).toInt) * 1000000 + 900000).toNat + 1)).1 N x4 (0 : Int32) (u6) hG F0 (by omega) (by omega) (by omega) (by omega) (by omega) (by omega) (by omega) (by omega) (by omega) (by omega) (by omega)
      · refine to_c (pc := 69) rw_245_69 (x := (0 : Int32)) rfl rfl (to_is (pc := 70) rw_245_70 (ls2 := [.ref 77, .int p, .int f, .int w, .int x4, .int x5, .int (0 : Int32)]) rfl rfl ?_)
        have k_59 : (0 : Int32).toInt = 0 := rfl
        exact ih.2 N x4 x5 (0 : Int32) hG F0 (by omega) (by omega) (by omega) (by omega) (by omega) (by omega) (by omega) (by omega) (by omega) (by omega) (by omega) (by omega) (by omega)
    · intro N x4 x5 x6 hG F0 g1 g2 g3 g4 g5 g6 g7 g8 g9 g10 g11 g12 hm
      refine to_i (pc := 72) rw_245_72 rfl (to_i (pc := 74) rw_245_74 rfl (b_cge (pc := 76) rw_245_76 (A := x6.toInt) (B := x4.toInt) rfl rfl (fun h60 => ?_) (fun h60 => ?_)))
      · refine s_inc (pc := 115) rw_245_115 (ls2 := fun v => [.ref 77, .int p, .int f, .int w, .int x4, .int v, .int x6]) rfl rfl (fun _ => rfl) (A := x5.toInt) (B := 1) rfl rfl (by omega) (fun v61 e62 => to_go (pc := 118) rw_245_118 ?_)
        exact ih.1 N x4 v61 (.int x6) hG F0 (by omega) (by omega) (by omega) (by omega) (by omega) (by omega) (by omega) (by omega) (by omega) (by omega) (by omega)
      · refine to_an (pc := 79) rw_245_79 rfl (s_gR (pc := 80) rw_245_80 hG rfl (v := 124) rfl (to_c (pc := 83) rw_245_83 (x := (6 : Int32)) rfl rfl (to_i (pc := 85) rw_245_85 rfl (s_mul (pc := 87) rw_245_87 (A := 6) (B := x5.toInt) rfl rfl (by omega) (fun v63 e64 => to_i (pc := 88) rw_245_88 rfl (s_add (pc := 90) rw_245_90 (A := v63.toInt) (B := x6.toInt) rfl rfl (by omega) (fun v65 e66 => to_an (pc := 91) rw_245_91 rfl (to_i (pc := 92) rw_245_92 rfl (s_cl (pc := 94) rw_245_94 rfl (fun l67 => to_an (pc := 95) rw_245_95 rfl (s_gR (pc := 96) rw_245_96 hG rfl (v := 82) rfl ?_)))))))))))
        refine to_in (pc := 99) rw_245_99 rfl (s_ial (pc := 100) rw_245_100 hG rfl (n := 16) rfl rfl (A := f.toInt) rfl (by omega) (by omega) (lo := 0) (hi := 59) rfl rfl (fun v68 w_69 _ _ => to_i (pc := 101) rw_245_101 rfl (s_add (pc := 103) rw_245_103 (A := v68.toInt) (B := x6.toInt) rfl rfl (by omega) (fun v70 e71 => s_anyS (pc := 104) rw_245_104 (fun _ _ => rfl) (fun l72 => s_v (pc := 105) rw_245_105 (dp0 hd (by decide)) (ls0 := [.ref 77, .int x5, .long l72, .null, .null]) rfl (Nat.le_of_ble_eq_true rfl) (Nat.le_of_ble_eq_true rfl) rfl (to_rc rfl rfl rfl (g_o hG rfl)) rfl (C_207 hX (dp1 hd (by decide)) hG (by omega) (by omega) (c := x5) (x := l72) (fun r73 M78 hG75 F74 p_76 p_77 => ?_)))))))
        have F79 := FR.c F0 F74 tg_361
        refine s_zas (pc := 108) rw_245_108 hG75 rfl (n := 180) rfl (A := v65.toInt) rfl (by omega) (by omega) (B := r73.toInt) rfl (by omega) (fun M81 W80 => ?_)
        have hG82 := g_w hG75 W80 (A := r73.toInt) rfl (lo := 0) (hi := 1) rfl rfl (by omega) (by decide)
        have F83 := FR.w F79 W80 (show 124 = 77 ∧ (v65.toInt).toNat = 2 ∨ 94 ≤ 124 ∧ 124 ≤ 98 ∨ 121 ≤ 124 ∧ 124 ≤ 124 by omega)
        refine s_inc (pc := 109) rw_245_109 (ls2 := fun v => [.ref 77, .int p, .int f, .int w, .int x4, .int x5, .int v]) rfl rfl (fun _ => rfl) (A := x6.toInt) (B := 1) rfl rfl (by omega) (fun v84 e85 => to_go (pc := 112) rw_245_112 ?_)
        exact ih.2 M81 x4 x5 v84 hG82 F83 (by omega) (by omega) (by omega) (by omega) (by omega) (by omega) (by omega) (by omega) (by omega) (by omega) (by omega) (by omega) (by omega)
set_option maxRecDepth 4000 in
set_option maxHeartbeats 0 in
theorem C_245 {X : mm_X} {d : Nat} {M : mm_M} {Q : Option Value → mm_M → Prop} {p : Int32} {f : Int32} {w : Int32} (hX : g_X X) (hd : 3 ≤ d) (hG : g_G M) (q1 : NJ M) (q2 : FA M) (h : ∀ (r : Int32) (M1 : mm_M), g_G M1 → FR md_st M M1 → Q (some (.int r)) M1) : mm_T X d 244 0 [.ref 77, .int p, .int f, .int w, .null, .null, .null] [] M Q := by
  have F0 : FR md_st M M := FR.rf
  refine to_an (pc := 0) rw_245_0 rfl (to_c (pc := 1) rw_245_1 (x := (0 : Int32)) rfl rfl (s_pI (pc := 2) rw_245_2 hG rfl (fun M87 W86 => ?_)))
  have hG88 := g_wf hG W86 rfl rfl (by decide)
  have F89 := FR.w F0 W86 (show 77 = 77 ∧ 2 = 2 ∨ 94 ≤ 77 ∧ 77 ≤ 98 ∨ 121 ≤ 77 ∧ 77 ≤ 124 by decide)
  refine to_in (pc := 5) rw_245_5 rfl (s_s (pc := 6) rw_245_6 (dp0 hd (by decide)) (ls0 := [.int p]) rfl (Nat.le_of_ble_eq_true rfl) (Nat.le_of_ble_eq_true rfl) rfl (to_rcs rfl rfl) rfl (to_in (pc := 0) rw_205_0 rfl (b_ilt (pc := 1) rw_205_1 (A := p.toInt) rfl (fun h90 => ?_) (fun h90 => ?_))))
  · refine to_c (pc := 14) rw_205_14 (x := (0 : Int32)) rfl rfl (s_r1 (pc := 15) rw_205_15 (A := 0) rfl (by decide) (b_ieq_t (pc := 9) rw_245_9 (A := 0) rfl (by decide) (to_c (pc := 40) rw_245_40 (x := (-1 : Int32)) rfl rfl (to_r0 (pc := 41) rw_245_41 ?_))))
    have k_91 : (-1 : Int32).toInt = -1 := rfl
    exact h (-1 : Int32) M87 hG88 F89 
  · refine to_in (pc := 4) rw_205_4 rfl (to_c (pc := 5) rw_205_5 (x := (6 : Int32)) rfl rfl (b_cge (pc := 7) rw_205_7 (A := p.toInt) (B := 6) rfl rfl (fun h92 => ?_) (fun h92 => ?_)))
    · refine to_c (pc := 14) rw_205_14 (x := (0 : Int32)) rfl rfl (s_r1 (pc := 15) rw_205_15 (A := 0) rfl (by decide) (b_ieq_t (pc := 9) rw_245_9 (A := 0) rfl (by decide) (to_c (pc := 40) rw_245_40 (x := (-1 : Int32)) rfl rfl (to_r0 (pc := 41) rw_245_41 ?_))))
      have k_93 : (-1 : Int32).toInt = -1 := rfl
      exact h (-1 : Int32) M87 hG88 F89 
    · refine to_c (pc := 10) rw_205_10 (x := (1 : Int32)) rfl rfl (to_go (pc := 11) rw_205_11 (s_r1 (pc := 15) rw_205_15 (A := 1) rfl (by decide) (b_ieq_f (pc := 9) rw_245_9 (A := 1) rfl (by decide) (to_an (pc := 12) rw_245_12 rfl (to_in (pc := 13) rw_245_13 rfl (s_v (pc := 14) rw_245_14 (dp0 hd (by decide)) (ls0 := [.ref 77, .int f]) rfl (Nat.le_of_ble_eq_true rfl) (Nat.le_of_ble_eq_true rfl) rfl (to_rc rfl rfl rfl (g_o hG88 rfl)) rfl (to_an (pc := 0) rw_179_0 rfl (to_in (pc := 1) rw_179_1 rfl (s_v (pc := 2) rw_179_2 (dp1 hd (by decide)) (ls0 := [.ref 77, .int f]) rfl (Nat.le_of_ble_eq_true rfl) (Nat.le_of_ble_eq_true rfl) rfl (to_rc rfl rfl rfl (g_o hG88 rfl)) rfl (to_in (pc := 0) rw_178_0 rfl (b_ilt (pc := 1) rw_178_1 (A := f.toInt) rfl (fun h94 => ?_) (fun h94 => ?_))))))))))))
      · refine to_c (pc := 16) rw_178_16 (x := (0 : Int32)) rfl rfl (s_r1 (pc := 17) rw_178_17 (A := 0) rfl (by decide) (b_ieq_t (pc := 5) rw_179_5 (A := 0) rfl (by decide) (to_c (pc := 22) rw_179_22 (x := (0 : Int32)) rfl rfl (s_r1 (pc := 23) rw_179_23 (A := 0) rfl (by decide) (b_ieq_t (pc := 17) rw_245_17 (A := 0) rfl (by decide) (to_c (pc := 40) rw_245_40 (x := (-1 : Int32)) rfl rfl (to_r0 (pc := 41) rw_245_41 ?_)))))))
        have k_95 : (-1 : Int32).toInt = -1 := rfl
        exact h (-1 : Int32) M87 hG88 F89 
      · refine to_in (pc := 4) rw_178_4 rfl (to_an (pc := 5) rw_178_5 rfl ?_)
        have c_96 : M87.2.1 77 12 = (M.2.1 77 12) := (W_n W86 (by decide) rfl)
        have b_97 := g_b hG (a := 77) (i := 12) (lo := 0) (hi := 8) rfl rfl
        refine tt_gI (pc := 6) rw_178_6 (g_o hG88 rfl) (v := (M.2.1 77 12)) c_96 (b_cge (pc := 9) rw_178_9 (A := f.toInt) (B := (M.2.1 77 12).toInt) rfl rfl (fun h98 => ?_) (fun h98 => ?_))
        · refine to_c (pc := 16) rw_178_16 (x := (0 : Int32)) rfl rfl (s_r1 (pc := 17) rw_178_17 (A := 0) rfl (by decide) (b_ieq_t (pc := 5) rw_179_5 (A := 0) rfl (by decide) (to_c (pc := 22) rw_179_22 (x := (0 : Int32)) rfl rfl (s_r1 (pc := 23) rw_179_23 (A := 0) rfl (by decide) (b_ieq_t (pc := 17) rw_245_17 (A := 0) rfl (by decide) (to_c (pc := 40) rw_245_40 (x := (-1 : Int32)) rfl rfl (to_r0 (pc := 41) rw_245_41 ?_)))))))
          have k_99 : (-1 : Int32).toInt = -1 := rfl
          exact h (-1 : Int32) M87 hG88 F89 
        · refine to_c (pc := 12) rw_178_12 (x := (1 : Int32)) rfl rfl (to_go (pc := 13) rw_178_13 (s_r1 (pc := 17) rw_178_17 (A := 1) rfl (by decide) (b_ieq_f (pc := 5) rw_179_5 (A := 1) rfl (by decide) (to_an (pc := 8) rw_179_8 rfl (s_gR (pc := 9) rw_179_9 hG88 rfl (v := 81) rfl (to_in (pc := 12) rw_179_12 rfl (s_ial (pc := 13) rw_179_13 hG88 rfl (n := 16) rfl rfl (A := f.toInt) rfl (by omega) (by omega) (lo := 0) (hi := 3) rfl rfl (fun v100 w_101 _ _ => ?_))))))))
          have t_102 := congrArg Int32.toInt w_101
          have j_104 := (FA_f (fun a i z => W_n W86 (tg_94 a i z) rfl) q2)
          have j_103 := FA_u j_104 (f.toInt).toNat
          have t_105 : (M87.2.1 81 (f.toInt).toNat).toInt = (M.2.1 81 (f.toInt).toNat).toInt := congrArg Int32.toInt (W_n W86 (by omega) rfl)
          have t_106 : (M87.2.1 84 (f.toInt).toNat).toInt = (M.2.1 84 (f.toInt).toNat).toInt := congrArg Int32.toInt (W_n W86 (by omega) rfl)
          have j_107 := FA_u q2 (f.toInt).toNat
          refine to_c (pc := 14) rw_179_14 (x := (3 : Int32)) rfl rfl (b_ceq (pc := 15) rw_179_15 (A := v100.toInt) (B := 3) rfl rfl (fun h108 => ?_) (fun h108 => ?_))
          · refine to_c (pc := 22) rw_179_22 (x := (0 : Int32)) rfl rfl (s_r1 (pc := 23) rw_179_23 (A := 0) rfl (by decide) (b_ieq_t (pc := 17) rw_245_17 (A := 0) rfl (by decide) (to_c (pc := 40) rw_245_40 (x := (-1 : Int32)) rfl rfl (to_r0 (pc := 41) rw_245_41 ?_))))
            have k_109 : (-1 : Int32).toInt = -1 := rfl
            exact h (-1 : Int32) M87 hG88 F89 
          · refine to_c (pc := 18) rw_179_18 (x := (1 : Int32)) rfl rfl (to_go (pc := 19) rw_179_19 (s_r1 (pc := 23) rw_179_23 (A := 1) rfl (by decide) (b_ieq_f (pc := 17) rw_245_17 (A := 1) rfl (by decide) (to_an (pc := 20) rw_245_20 rfl (to_in (pc := 21) rw_245_21 rfl (s_v (pc := 22) rw_245_22 (dp0 hd (by decide)) (ls0 := [.ref 77, .int f]) rfl (Nat.le_of_ble_eq_true rfl) (Nat.le_of_ble_eq_true rfl) rfl (to_rc rfl rfl rfl (g_o hG88 rfl)) rfl (to_an (pc := 0) rw_197_0 rfl (s_gR (pc := 1) rw_197_1 hG88 rfl (v := 83) rfl (to_in (pc := 4) rw_197_4 rfl (s_ial (pc := 5) rw_197_5 hG88 rfl (n := 16) rfl rfl (A := f.toInt) rfl (by omega) (by omega) (lo := 0) (hi := 63) rfl rfl (fun v110 w_111 _ _ => ?_)))))))))))
            have t_112 := congrArg Int32.toInt w_111
            have t_113 : (M87.2.1 82 (f.toInt).toNat).toInt = (M.2.1 82 (f.toInt).toNat).toInt := congrArg Int32.toInt (W_n W86 (by omega) rfl)
            have t_114 : (M87.2.1 83 (f.toInt).toNat).toInt = (M.2.1 83 (f.toInt).toNat).toInt := congrArg Int32.toInt (W_n W86 (by omega) rfl)
            refine to_an (pc := 6) rw_197_6 rfl (s_gR (pc := 7) rw_197_7 hG88 rfl (v := 82) rfl (to_in (pc := 10) rw_197_10 rfl (s_ial (pc := 11) rw_197_11 hG88 rfl (n := 16) rfl rfl (A := f.toInt) rfl (by omega) (by omega) (lo := 0) (hi := 59) rfl rfl (fun v115 w_116 _ _ => ?_))))
            have t_117 := congrArg Int32.toInt w_116
            have t_118 : (M87.2.1 82 (f.toInt).toNat).toInt = (M.2.1 82 (f.toInt).toNat).toInt := congrArg Int32.toInt (W_n W86 (by omega) rfl)
            have t_119 : (M87.2.1 83 (f.toInt).toNat).toInt = (M.2.1 83 (f.toInt).toNat).toInt := congrArg Int32.toInt (W_n W86 (by omega) rfl)
            refine s_sub (pc := 12) rw_197_12 (A := v110.toInt) (B := v115.toInt) rfl rfl (by omega) (fun v120 e121 => to_c (pc := 13) rw_197_13 (x := (1 : Int32)) rfl rfl (s_add (pc := 14) rw_197_14 (A := v120.toInt) (B := 1) rfl rfl (by omega) (fun v122 e123 => to_r0 (pc := 15) rw_197_15 (to_c (pc := 25) rw_245_25 (x := (6 : Int32)) rfl rfl (b_cgt (pc := 27) rw_245_27 (A := v122.toInt) (B := 6) rfl rfl (fun h124 => ?_) (fun h124 => ?_))))))
            · refine to_c (pc := 40) rw_245_40 (x := (-1 : Int32)) rfl rfl (to_r0 (pc := 41) rw_245_41 ?_)
              have k_125 : (-1 : Int32).toInt = -1 := rfl
              exact h (-1 : Int32) M87 hG88 F89 
            · refine to_in (pc := 30) rw_245_30 rfl (to_c (pc := 31) rw_245_31 (x := (0 : Int32)) rfl rfl (to_c (pc := 32) rw_245_32 (x := (6 : Int32)) rfl rfl (s_s (pc := 34) rw_245_34 (dp0 hd (by decide)) (ls0 := [.int w, .int (0 : Int32), .int (6 : Int32)]) rfl (Nat.le_of_ble_eq_true rfl) (Nat.le_of_ble_eq_true rfl) rfl (to_rcs rfl rfl) rfl (to_in (pc := 0) rw_149_0 rfl (to_in (pc := 1) rw_149_1 rfl (b_clt (pc := 2) rw_149_2 (A := w.toInt) (B := 0) rfl rfl (fun h126 => ?_) (fun h126 => ?_)))))))
              · refine to_c (pc := 14) rw_149_14 (x := (0 : Int32)) rfl rfl (s_r1 (pc := 15) rw_149_15 (A := 0) rfl (by decide) (b_ine_f (pc := 37) rw_245_37 (A := 0) rfl (by decide) (to_c (pc := 40) rw_245_40 (x := (-1 : Int32)) rfl rfl (to_r0 (pc := 41) rw_245_41 ?_))))
                have k_127 : (-1 : Int32).toInt = -1 := rfl
                exact h (-1 : Int32) M87 hG88 F89 
              · refine to_in (pc := 5) rw_149_5 rfl (to_in (pc := 6) rw_149_6 rfl (b_cgt (pc := 7) rw_149_7 (A := w.toInt) (B := 6) rfl rfl (fun h128 => ?_) (fun h128 => ?_)))
                · refine to_c (pc := 14) rw_149_14 (x := (0 : Int32)) rfl rfl (s_r1 (pc := 15) rw_149_15 (A := 0) rfl (by decide) (b_ine_f (pc := 37) rw_245_37 (A := 0) rfl (by decide) (to_c (pc := 40) rw_245_40 (x := (-1 : Int32)) rfl rfl (to_r0 (pc := 41) rw_245_41 ?_))))
                  have k_129 : (-1 : Int32).toInt = -1 := rfl
                  exact h (-1 : Int32) M87 hG88 F89 
                · refine to_c (pc := 10) rw_149_10 (x := (1 : Int32)) rfl rfl (to_go (pc := 11) rw_149_11 (s_r1 (pc := 15) rw_149_15 (A := 1) rfl (by decide) (b_ine_t (pc := 37) rw_245_37 (A := 1) rfl (by decide) (to_an (pc := 42) rw_245_42 rfl (to_an (pc := 43) rw_245_43 rfl ?_)))))
                  have c_130 : M87.2.1 77 29 = (M.2.1 77 29) := (W_n W86 (by decide) rfl)
                  have b_131 := g_b hG (a := 77) (i := 29) (lo := 0) (hi := 150) rfl rfl
                  refine tt_gI (pc := 44) rw_245_44 (g_o hG88 rfl) (v := (M.2.1 77 29)) c_130 (s_v (pc := 47) rw_245_47 (dp0 hd (by decide)) (ls0 := [.ref 77, .int (M.2.1 77 29), .null, .null]) rfl (Nat.le_of_ble_eq_true rfl) (Nat.le_of_ble_eq_true rfl) rfl (to_rc rfl rfl rfl (g_o hG88 rfl)) rfl ?_)
                  have t_132 : (M87.2.1 77 29).toInt = (M.2.1 77 29).toInt := congrArg Int32.toInt c_130
                  have j_133 := (NJ_f (fun a i z => W_n W86 (by /-r77,2-/ omega) rfl) q1)
                  refine C_189 hX (dp1 hd (by decide)) hG88 (by omega) (by omega) (by omega) j_133 (n := (M.2.1 77 29)) (fun M136 hG135 F134 => ?_)
                  have F137 := FR.c F89 F134 tg_362
                  refine to_an (pc := 50) rw_245_50 rfl (to_in (pc := 51) rw_245_51 rfl (s_v (pc := 52) rw_245_52 (dp0 hd (by decide)) (ls0 := [.ref 77, .int f]) rfl (Nat.le_of_ble_eq_true rfl) (Nat.le_of_ble_eq_true rfl) rfl (to_rc rfl rfl rfl (g_o hG135 rfl)) rfl (to_an (pc := 0) rw_197_0 rfl (s_gR (pc := 1) rw_197_1 hG135 rfl (v := 83) rfl (to_in (pc := 4) rw_197_4 rfl (s_ialk (pc := 5) rw_197_5 hG135 rfl (n := 16) rfl rfl (A := f.toInt) rfl (by omega) (by omega) (v := v110) (F_n F134 (show ¬ (94 ≤ 83 ∧ 83 ≤ 98) by decide) w_111) (to_an (pc := 6) rw_197_6 rfl (s_gR (pc := 7) rw_197_7 hG135 rfl (v := 82) rfl (to_in (pc := 10) rw_197_10 rfl (s_ialk (pc := 11) rw_197_11 hG135 rfl (n := 16) rfl rfl (A := f.toInt) rfl (by omega) (by omega) (v := v115) (F_n F134 (show ¬ (94 ≤ 82 ∧ 82 ≤ 98) by decide) w_116) (s_sub (pc := 12) rw_197_12 (A := v110.toInt) (B := v115.toInt) rfl rfl (by omega) (fun v142 e143 => ?_))))))))))))
                  refine to_c (pc := 13) rw_197_13 (x := (1 : Int32)) rfl rfl (s_add (pc := 14) rw_197_14 (A := v142.toInt) (B := 1) rfl rfl (by omega) (fun v144 e145 => to_r0 (pc := 15) rw_197_15 (to_is (pc := 55) rw_245_55 (ls2 := [.ref 77, .int p, .int f, .int w, .int v144, .null, .null]) rfl rfl (to_c (pc := 57) rw_245_57 (x := (0 : Int32)) rfl rfl (to_is (pc := 58) rw_245_58 (ls2 := [.ref 77, .int p, .int f, .int w, .int v144, .int (0 : Int32), .null]) rfl rfl ?_)))))
                  have k_146 : (0 : Int32).toInt = 0 := rfl
                  exact (T_245_1 (p := p) (f := f) (w := w) hX hd q1 q2 h (((30 - (0 : Int32).toInt) * 100 + 50).toNat + 1)).1 M136 v144 (0 : Int32) (.null) hG135 F137 (by omega) (by omega) (by omega) (by omega) (by omega) (by omega) (by omega) (by omega) (by omega) (by omega) (by omega)
end
section
set_option maxRecDepth 4000 in
set_option maxHeartbeats 0 in
theorem E_77 {X : mm_X} {d : Nat} {M : mm_M} {Q : Option Value → mm_M → Prop} {x : Int32} (hX : g_X X) (hd : 0 ≤ d) (hG : g_G M) (q1 : (M.2.1 1 1).toInt ≤ 496) (h : ∀ (M1 : mm_M), g_G M1 → FR md_a M M1 → ((M1.2.1 1 1).toInt = (M.2.1 1 1).toInt + 4) → (AP M M1 x) → Q (none) M1) : mm_T X d 77 0 [.ref 1, .int x, .null] [] M Q := by
  have F0 : FR md_a M M := FR.rf
  have b_1 := g_b hG (a := 1) (i := 1) (lo := 0) (hi := 500) rfl rfl
  refine to_c (pc := 0) rw_77_0 (x := (24 : Int32)) rfl rfl (to_isn (pc := 2) rw_77_2 (ls2 := [.ref 1, .int x, .int (24 : Int32)]) rfl rfl (to_in (pc := 3) rw_77_3 rfl (b_ilt_f (pc := 4) rw_77_4 (A := 24) rfl (by decide) (to_an (pc := 7) rw_77_7 rfl (tt_gI (pc := 8) rw_77_8 (g_o hG rfl) (v := (M.2.1 1 1)) rfl (to_an (pc := 11) rw_77_11 rfl (s_gR (pc := 12) rw_77_12 hG rfl (v := 2) rfl (s_len (pc := 15) rw_77_15 hG rfl rfl (n := 500) rfl (v := (500 : Int32)) rfl (b_cge_f (pc := 16) rw_77_16 (A := (M.2.1 1 1).toInt) (B := 500) rfl rfl (by omega) (to_an (pc := 19) rw_77_19 rfl (s_gR (pc := 20) rw_77_20 hG rfl (v := 2) rfl ?_)))))))))))
  refine to_an (pc := 23) rw_77_23 rfl (tt_gI (pc := 24) rw_77_24 (g_o hG rfl) (v := (M.2.1 1 1)) rfl (to_in (pc := 27) rw_77_27 rfl (to_in (pc := 28) rw_77_28 rfl (s_opE (pc := 29) rw_77_29 (w := x >>> (24 : Int32)) rfl (fun v2 e3 => to_i2b (pc := 30) rw_77_30 (v := (v2.toInt8.toInt32)) rfl (s_basE (pc := 31) rw_77_31 hG rfl (n := 500) rfl (A := (M.2.1 1 1).toInt) rfl (by omega) (by omega) (fun M5 W4 => ?_)))))))
  have hG6 := g_wf hG W4 rfl rfl (by decide)
  have F7 := FR.w F0 W4 (show 2 = 1 ∧ ((M.2.1 1 1).toInt).toNat = 1 ∨ 2 = 2 by omega)
  have k_8 : (24 : Int32).toInt = 24 := rfl
  have z_9 := x_by_b (x := x) (v := (24 : Int32)) (j := 0) (by omega) e3
  refine to_an (pc := 32) rw_77_32 rfl (to_dupr (pc := 33) rw_77_33 ?_)
  have c_10 : M5.2.1 1 1 = (M.2.1 1 1) := (W_n W4 (fun z => absurd z.1 (by decide)) rfl)
  refine tt_gI (pc := 34) rw_77_34 (g_o hG6 rfl) (v := (M.2.1 1 1)) c_10 (to_c (pc := 37) rw_77_37 (x := (1 : Int32)) rfl rfl (s_add (pc := 38) rw_77_38 (A := (M.2.1 1 1).toInt) (B := 1) rfl rfl (by omega) (fun v11 e12 => s_pI (pc := 39) rw_77_39 hG6 rfl (fun M14 W13 => ?_))))
  have hG15 := g_w hG6 W13 (A := v11.toInt) rfl (lo := 0) (hi := 500) rfl rfl (by omega) (by decide)
  have F16 := FR.w F7 W13 (show 1 = 1 ∧ 1 = 1 ∨ 1 = 2 by decide)
  refine s_inc (pc := 42) rw_77_42 (ls2 := fun v => [.ref 1, .int x, .int v]) rfl rfl (fun _ => rfl) (A := 24) (B := -8) rfl rfl (by omega) (fun v17 e18 => to_go (pc := 45) rw_77_45 (to_in (pc := 3) rw_77_3 rfl (b_ilt_f (pc := 4) rw_77_4 (A := v17.toInt) rfl (by omega) (to_an (pc := 7) rw_77_7 rfl ?_))))
  have c_19 : M14.2.1 1 1 = v11 := (W_e W13)
  refine tt_gI (pc := 8) rw_77_8 (g_o hG15 rfl) (v := v11) c_19 (to_an (pc := 11) rw_77_11 rfl (s_gR (pc := 12) rw_77_12 hG15 rfl (v := 2) rfl (s_len (pc := 15) rw_77_15 hG15 rfl rfl (n := 500) rfl (v := (500 : Int32)) rfl (b_cge_f (pc := 16) rw_77_16 (A := v11.toInt) (B := 500) rfl rfl (by omega) (to_an (pc := 19) rw_77_19 rfl (s_gR (pc := 20) rw_77_20 hG15 rfl (v := 2) rfl (to_an (pc := 23) rw_77_23 rfl (tt_gI (pc := 24) rw_77_24 (g_o hG15 rfl) (v := v11) c_19 (to_in (pc := 27) rw_77_27 rfl (to_in (pc := 28) rw_77_28 rfl (s_opE (pc := 29) rw_77_29 (w := x >>> v17) rfl (fun v20 e21 => ?_))))))))))))
  refine to_i2b (pc := 30) rw_77_30 (v := (v20.toInt8.toInt32)) rfl (s_basE (pc := 31) rw_77_31 hG15 rfl (n := 500) rfl (A := v11.toInt) rfl (by omega) (by omega) (fun M23 W22 => ?_))
  have hG24 := g_wf hG15 W22 rfl rfl (by decide)
  have F25 := FR.w F16 W22 (show 2 = 1 ∧ (v11.toInt).toNat = 1 ∨ 2 = 2 by omega)
  have z_26 := x_by_b (x := x) (v := v17) (j := 1) (by omega) e21
  refine to_an (pc := 32) rw_77_32 rfl (to_dupr (pc := 33) rw_77_33 ?_)
  have c_27 : M23.2.1 1 1 = v11 := (W_n W22 (fun z => absurd z.1 (by decide)) c_19)
  refine tt_gI (pc := 34) rw_77_34 (g_o hG24 rfl) (v := v11) c_27 (to_c (pc := 37) rw_77_37 (x := (1 : Int32)) rfl rfl (s_add (pc := 38) rw_77_38 (A := v11.toInt) (B := 1) rfl rfl (by omega) (fun v28 e29 => s_pI (pc := 39) rw_77_39 hG24 rfl (fun M31 W30 => ?_))))
  have hG32 := g_w hG24 W30 (A := v28.toInt) rfl (lo := 0) (hi := 500) rfl rfl (by omega) (by decide)
  have F33 := FR.w F25 W30 (show 1 = 1 ∧ 1 = 1 ∨ 1 = 2 by decide)
  refine s_inc (pc := 42) rw_77_42 (ls2 := fun v => [.ref 1, .int x, .int v]) rfl rfl (fun _ => rfl) (A := v17.toInt) (B := -8) rfl rfl (by omega) (fun v34 e35 => to_go (pc := 45) rw_77_45 (to_in (pc := 3) rw_77_3 rfl (b_ilt_f (pc := 4) rw_77_4 (A := v34.toInt) rfl (by omega) (to_an (pc := 7) rw_77_7 rfl ?_))))
  have c_36 : M31.2.1 1 1 = v28 := (W_e W30)
  refine tt_gI (pc := 8) rw_77_8 (g_o hG32 rfl) (v := v28) c_36 (to_an (pc := 11) rw_77_11 rfl (s_gR (pc := 12) rw_77_12 hG32 rfl (v := 2) rfl (s_len (pc := 15) rw_77_15 hG32 rfl rfl (n := 500) rfl (v := (500 : Int32)) rfl (b_cge_f (pc := 16) rw_77_16 (A := v28.toInt) (B := 500) rfl rfl (by omega) (to_an (pc := 19) rw_77_19 rfl (s_gR (pc := 20) rw_77_20 hG32 rfl (v := 2) rfl (to_an (pc := 23) rw_77_23 rfl (tt_gI (pc := 24) rw_77_24 (g_o hG32 rfl) (v := v28) c_36 (to_in (pc := 27) rw_77_27 rfl (to_in (pc := 28) rw_77_28 rfl (s_opE (pc := 29) rw_77_29 (w := x >>> v34) rfl (fun v37 e38 => ?_))))))))))))
  refine to_i2b (pc := 30) rw_77_30 (v := (v37.toInt8.toInt32)) rfl (s_basE (pc := 31) rw_77_31 hG32 rfl (n := 500) rfl (A := v28.toInt) rfl (by omega) (by omega) (fun M40 W39 => ?_))
  have hG41 := g_wf hG32 W39 rfl rfl (by decide)
  have F42 := FR.w F33 W39 (show 2 = 1 ∧ (v28.toInt).toNat = 1 ∨ 2 = 2 by omega)
  have z_43 := x_by_b (x := x) (v := v34) (j := 2) (by omega) e38
  refine to_an (pc := 32) rw_77_32 rfl (to_dupr (pc := 33) rw_77_33 ?_)
  have c_44 : M40.2.1 1 1 = v28 := (W_n W39 (fun z => absurd z.1 (by decide)) c_36)
  refine tt_gI (pc := 34) rw_77_34 (g_o hG41 rfl) (v := v28) c_44 (to_c (pc := 37) rw_77_37 (x := (1 : Int32)) rfl rfl (s_add (pc := 38) rw_77_38 (A := v28.toInt) (B := 1) rfl rfl (by omega) (fun v45 e46 => s_pI (pc := 39) rw_77_39 hG41 rfl (fun M48 W47 => ?_))))
  have hG49 := g_w hG41 W47 (A := v45.toInt) rfl (lo := 0) (hi := 500) rfl rfl (by omega) (by decide)
  have F50 := FR.w F42 W47 (show 1 = 1 ∧ 1 = 1 ∨ 1 = 2 by decide)
  refine s_inc (pc := 42) rw_77_42 (ls2 := fun v => [.ref 1, .int x, .int v]) rfl rfl (fun _ => rfl) (A := v34.toInt) (B := -8) rfl rfl (by omega) (fun v51 e52 => to_go (pc := 45) rw_77_45 (to_in (pc := 3) rw_77_3 rfl (b_ilt_f (pc := 4) rw_77_4 (A := v51.toInt) rfl (by omega) (to_an (pc := 7) rw_77_7 rfl ?_))))
  have c_53 : M48.2.1 1 1 = v45 := (W_e W47)
  refine tt_gI (pc := 8) rw_77_8 (g_o hG49 rfl) (v := v45) c_53 (to_an (pc := 11) rw_77_11 rfl (s_gR (pc := 12) rw_77_12 hG49 rfl (v := 2) rfl (s_len (pc := 15) rw_77_15 hG49 rfl rfl (n := 500) rfl (v := (500 : Int32)) rfl (b_cge_f (pc := 16) rw_77_16 (A := v45.toInt) (B := 500) rfl rfl (by omega) (to_an (pc := 19) rw_77_19 rfl (s_gR (pc := 20) rw_77_20 hG49 rfl (v := 2) rfl (to_an (pc := 23) rw_77_23 rfl (tt_gI (pc := 24) rw_77_24 (g_o hG49 rfl) (v := v45) c_53 (to_in (pc := 27) rw_77_27 rfl (to_in (pc := 28) rw_77_28 rfl (s_opE (pc := 29) rw_77_29 (w := x >>> v51) rfl (fun v54 e55 => ?_))))))))))))
  refine to_i2b (pc := 30) rw_77_30 (v := (v54.toInt8.toInt32)) rfl (s_basE (pc := 31) rw_77_31 hG49 rfl (n := 500) rfl (A := v45.toInt) rfl (by omega) (by omega) (fun M57 W56 => ?_))
  have hG58 := g_wf hG49 W56 rfl rfl (by decide)
  have F59 := FR.w F50 W56 (show 2 = 1 ∧ (v45.toInt).toNat = 1 ∨ 2 = 2 by omega)
  have z_60 := x_by_b (x := x) (v := v51) (j := 3) (by omega) e55
  refine to_an (pc := 32) rw_77_32 rfl (to_dupr (pc := 33) rw_77_33 ?_)
  have c_61 : M57.2.1 1 1 = v45 := (W_n W56 (fun z => absurd z.1 (by decide)) c_53)
  refine tt_gI (pc := 34) rw_77_34 (g_o hG58 rfl) (v := v45) c_61 (to_c (pc := 37) rw_77_37 (x := (1 : Int32)) rfl rfl (s_add (pc := 38) rw_77_38 (A := v45.toInt) (B := 1) rfl rfl (by omega) (fun v62 e63 => s_pI (pc := 39) rw_77_39 hG58 rfl (fun M65 W64 => ?_))))
  have hG66 := g_w hG58 W64 (A := v62.toInt) rfl (lo := 0) (hi := 500) rfl rfl (by omega) (by decide)
  have F67 := FR.w F59 W64 (show 1 = 1 ∧ 1 = 1 ∨ 1 = 2 by decide)
  refine s_inc (pc := 42) rw_77_42 (ls2 := fun v => [.ref 1, .int x, .int v]) rfl rfl (fun _ => rfl) (A := v51.toInt) (B := -8) rfl rfl (by omega) (fun v68 e69 => to_go (pc := 45) rw_77_45 (to_in (pc := 3) rw_77_3 rfl (b_ilt_t (pc := 4) rw_77_4 (A := v68.toInt) rfl (by omega) (to_rv (pc := 48) rw_77_48 ?_))))
  have c_70 : M65.2.1 1 1 = v62 := (W_e W64)
  have t_71 : (M65.2.1 1 1).toInt = v62.toInt := congrArg Int32.toInt c_70
  have z_72 : M65.2.1 2 ((M.2.1 1 1).toInt.toNat + 0) &&& 255 = x_by x 0 := by rw [show (M.2.1 1 1).toInt.toNat + 0 = ((M.2.1 1 1).toInt).toNat by omega, show M65.2.1 2 ((M.2.1 1 1).toInt).toNat = _ from (W_n W64 (by omega) (W_n W56 (by omega) (W_n W47 (by omega) (W_n W39 (by omega) (W_n W30 (by omega) (W_n W22 (by omega) (W_n W13 (by omega) (W_e W4))))))))]; exact z_9
  have z_73 : M65.2.1 2 ((M.2.1 1 1).toInt.toNat + 1) &&& 255 = x_by x 1 := by rw [show (M.2.1 1 1).toInt.toNat + 1 = (v11.toInt).toNat by omega, show M65.2.1 2 (v11.toInt).toNat = _ from (W_n W64 (by omega) (W_n W56 (by omega) (W_n W47 (by omega) (W_n W39 (by omega) (W_n W30 (by omega) (W_e W22))))))]; exact z_26
  have z_74 : M65.2.1 2 ((M.2.1 1 1).toInt.toNat + 2) &&& 255 = x_by x 2 := by rw [show (M.2.1 1 1).toInt.toNat + 2 = (v28.toInt).toNat by omega, show M65.2.1 2 (v28.toInt).toNat = _ from (W_n W64 (by omega) (W_n W56 (by omega) (W_n W47 (by omega) (W_e W39))))]; exact z_43
  have z_75 : M65.2.1 2 ((M.2.1 1 1).toInt.toNat + 3) &&& 255 = x_by x 3 := by rw [show (M.2.1 1 1).toInt.toNat + 3 = (v45.toInt).toNat by omega, show M65.2.1 2 (v45.toInt).toNat = _ from (W_n W64 (by omega) (W_e W56))]; exact z_60
  exact h M65 hG66 F67 (by omega) ⟨by omega, fun k hk => (W_n W64 (by omega) (W_n W56 (by omega) (W_n W47 (by omega) (W_n W39 (by omega) (W_n W30 (by omega) (W_n W22 (by omega) (W_n W13 (by omega) (W_n W4 (by omega) rfl)))))))), fun j hj => by rcases (show j = 0 ∨ j = 1 ∨ j = 2 ∨ j = 3 by omega) with rfl | rfl | rfl | rfl; exact z_72; exact z_73; exact z_74; exact z_75⟩
set_option maxRecDepth 4000 in
set_option maxHeartbeats 0 in
theorem E_110 {X : mm_X} {d : Nat} {M : mm_M} {Q : Option Value → mm_M → Prop} {a : Int32} {b : Int32} {c : Int32} {x : Int32} {e : Int32} (hX : g_X X) (hd : 1 ≤ d) (hG : g_G M) (h : ∀ (r : Int32) (M1 : mm_M), g_G M1 → FR md_a M M1 → (480 < (M.2.1 1 1).toInt → r.toInt = -1 ∧ (M1.2.1 1 1).toInt = (M.2.1 1 1).toInt) → ((M.2.1 1 1).toInt ≤ 480 → r.toInt = (M.2.1 1 1).toInt + 20 ∧ (M1.2.1 1 1).toInt = (M.2.1 1 1).toInt + 20) → (FD M M1 a b c x e) → Q (some (.int r)) M1) : mm_T X d 110 0 [.ref 0, .int a, .int b, .int c, .int x, .int e] [] M Q := by
  have F0 : FR md_a M M := FR.rf
  have b_1 := g_b hG (a := 1) (i := 1) (lo := 0) (hi := 500) rfl rfl
  refine to_an (pc := 0) rw_110_0 rfl (s_gR (pc := 1) rw_110_1 hG rfl (v := 1) rfl (tt_gI (pc := 4) rw_110_4 (g_o hG rfl) (v := (M.2.1 1 1)) rfl (to_c (pc := 7) rw_110_7 (x := (480 : Int32)) rfl rfl (b_cle (pc := 10) rw_110_10 (A := (M.2.1 1 1).toInt) (B := 480) rfl rfl (fun h2 => ?_) (fun h2 => ?_)))))
  · refine to_an (pc := 15) rw_110_15 rfl (s_gR (pc := 16) rw_110_16 hG rfl (v := 1) rfl (to_in (pc := 19) rw_110_19 rfl (s_v (pc := 20) rw_110_20 (dp0 hd (by decide)) (ls0 := [.ref 1, .int a, .null]) rfl (Nat.le_of_ble_eq_true rfl) (Nat.le_of_ble_eq_true rfl) rfl (to_rc rfl rfl rfl (g_o hG rfl)) rfl (E_77 hX (dp1 hd (by decide)) hG (by omega) (x := a) (fun M7 hG4 F3 p_5 p_6 => ?_)))))
    have F8 := FR.c F0 F3 tg_179
    have b_9 := g_b hG4 (a := 1) (i := 1) (lo := 0) (hi := 500) rfl rfl
    refine to_an (pc := 23) rw_110_23 rfl (s_gR (pc := 24) rw_110_24 hG4 rfl (v := 1) rfl (to_in (pc := 27) rw_110_27 rfl (s_v (pc := 28) rw_110_28 (dp0 hd (by decide)) (ls0 := [.ref 1, .int b, .null]) rfl (Nat.le_of_ble_eq_true rfl) (Nat.le_of_ble_eq_true rfl) rfl (to_rc rfl rfl rfl (g_o hG4 rfl)) rfl (E_77 hX (dp1 hd (by decide)) hG4 (by omega) (x := b) (fun M14 hG11 F10 p_12 p_13 => ?_)))))
    have F15 := FR.c F8 F10 tg_179
    have b_16 := g_b hG11 (a := 1) (i := 1) (lo := 0) (hi := 500) rfl rfl
    refine to_an (pc := 31) rw_110_31 rfl (s_gR (pc := 32) rw_110_32 hG11 rfl (v := 1) rfl (to_in (pc := 35) rw_110_35 rfl (s_v (pc := 36) rw_110_36 (dp0 hd (by decide)) (ls0 := [.ref 1, .int c, .null]) rfl (Nat.le_of_ble_eq_true rfl) (Nat.le_of_ble_eq_true rfl) rfl (to_rc rfl rfl rfl (g_o hG11 rfl)) rfl (E_77 hX (dp1 hd (by decide)) hG11 (by omega) (x := c) (fun M21 hG18 F17 p_19 p_20 => ?_)))))
    have F22 := FR.c F15 F17 tg_179
    have b_23 := g_b hG18 (a := 1) (i := 1) (lo := 0) (hi := 500) rfl rfl
    refine to_an (pc := 39) rw_110_39 rfl (s_gR (pc := 40) rw_110_40 hG18 rfl (v := 1) rfl (to_i (pc := 43) rw_110_43 rfl (s_v (pc := 45) rw_110_45 (dp0 hd (by decide)) (ls0 := [.ref 1, .int x, .null]) rfl (Nat.le_of_ble_eq_true rfl) (Nat.le_of_ble_eq_true rfl) rfl (to_rc rfl rfl rfl (g_o hG18 rfl)) rfl (E_77 hX (dp1 hd (by decide)) hG18 (by omega) (x := x) (fun M28 hG25 F24 p_26 p_27 => ?_)))))
    have F29 := FR.c F22 F24 tg_179
    have b_30 := g_b hG25 (a := 1) (i := 1) (lo := 0) (hi := 500) rfl rfl
    refine to_an (pc := 48) rw_110_48 rfl (s_gR (pc := 49) rw_110_49 hG25 rfl (v := 1) rfl (to_i (pc := 52) rw_110_52 rfl (s_v (pc := 54) rw_110_54 (dp0 hd (by decide)) (ls0 := [.ref 1, .int e, .null]) rfl (Nat.le_of_ble_eq_true rfl) (Nat.le_of_ble_eq_true rfl) rfl (to_rc rfl rfl rfl (g_o hG25 rfl)) rfl (E_77 hX (dp1 hd (by decide)) hG25 (by omega) (x := e) (fun M35 hG32 F31 p_33 p_34 => ?_)))))
    have F36 := FR.c F29 F31 tg_179
    have b_37 := g_b hG32 (a := 1) (i := 1) (lo := 0) (hi := 500) rfl rfl
    refine to_an (pc := 57) rw_110_57 rfl (s_gR (pc := 58) rw_110_58 hG32 rfl (v := 1) rfl (tt_gI (pc := 61) rw_110_61 (g_o hG32 rfl) (v := (M35.2.1 1 1)) rfl (to_r0 (pc := 64) rw_110_64 ?_)))
    exact h (M35.2.1 1 1) M35 hG32 F36 (by omega) (by omega) (FD_5 (by omega) p_6 p_13 p_20 p_27 p_34)
  · refine to_c (pc := 13) rw_110_13 (x := (-1 : Int32)) rfl rfl (to_r0 (pc := 14) rw_110_14 ?_)
    have k_38 : (-1 : Int32).toInt = -1 := rfl
    exact h (-1 : Int32) M hG F0 (by omega) (by omega) (FD_0 (by omega))
set_option maxRecDepth 4000 in
set_option maxHeartbeats 0 in
theorem U_148_0 {X : mm_X} {d : Nat} {M : mm_M} {Q : Option Value → mm_M → Prop} {a : Int32} {b : Int32} {c : Int32} {x : Int32} {e : Int32} (hX : g_X X) (hd : 0 ≤ d) (h : ∀ (r : Int32) (M1 : mm_M), g_G M1 → FR md_fe M M1 → (480 < (M.2.1 77 1).toInt → r.toInt = -1 ∧ (M1.2.1 77 1).toInt = (M.2.1 77 1).toInt) → ((M.2.1 77 1).toInt ≤ 480 → r.toInt = (M.2.1 77 1).toInt + 20 ∧ (M1.2.1 77 1).toInt = (M.2.1 77 1).toInt + 20) → (FDr M M1 a b c x e) → Q (some (.int r)) M1) : ∀ nn9 : Nat, (∀ (N : mm_M) (x6 : Int32) (u7 : Value), g_G N → FR md_fe M N → (0 ≤ x6.toInt) → (x6.toInt ≤ 20) → ((N.2.1 77 1).toInt = (M.2.1 77 1).toInt) → ((N.2.1 77 1).toInt ≤ 480) → (0 ≤ (N.2.1 77 1).toInt) → (∀ j : Nat, (j : Int) < x6.toInt → N.2.1 78 ((M.2.1 77 1).toInt.toNat + j) = x_fb a b c x e j) → (∀ j : Nat, (j : Int) < (M.2.1 77 1).toInt → N.2.1 78 j = M.2.1 78 j) → 20 - x6.toInt < (nn9 : Int) → mm_T X d 147 23 [.ref 77, .int a, .int b, .int c, .int x, .int e, .int x6, u7] [] N Q) := by
  intro nn9
  induction nn9 with
  | zero =>
    intro N x6 u7 hG F0 g1 g2 g3 g4 g5 g6 g7 hm
    have b_1 := g_b hG (a := 77) (i := 1) (lo := 0) (hi := 500) rfl rfl
    exfalso; omega
  | succ nn9 ih =>
    intro N x6 u7 hG F0 g1 g2 g3 g4 g5 g6 g7 hm
    have b_2 := g_b hG (a := 77) (i := 1) (lo := 0) (hi := 500) rfl rfl
    refine to_i (pc := 23) rw_148_23 rfl (to_c (pc := 25) rw_148_25 (x := (20 : Int32)) rfl rfl (b_cge (pc := 27) rw_148_27 (A := x6.toInt) (B := 20) rfl rfl (fun h3 => ?_) (fun h3 => ?_)))
    · refine to_an (pc := 113) rw_148_113 rfl (to_dupr (pc := 114) rw_148_114 (tt_gI (pc := 115) rw_148_115 (g_o hG rfl) (v := (N.2.1 77 1)) rfl (to_c (pc := 118) rw_148_118 (x := (20 : Int32)) rfl rfl (s_add (pc := 120) rw_148_120 (A := (N.2.1 77 1).toInt) (B := 20) rfl rfl (by omega) (fun v4 e5 => s_pI (pc := 121) rw_148_121 hG rfl (fun M7 W6 => ?_))))))
      have hG8 := g_w hG W6 (A := v4.toInt) rfl (lo := 0) (hi := 500) rfl rfl (by omega) (by decide)
      have F9 := FR.w F0 W6 (show 77 = 77 ∧ (1 = 1 ∨ 1 = 2) ∨ 77 = 78 by decide)
      refine to_an (pc := 124) rw_148_124 rfl ?_
      have c_10 : M7.2.1 77 1 = v4 := (W_e W6)
      refine tt_gI (pc := 125) rw_148_125 (g_o hG8 rfl) (v := v4) c_10 (to_r0 (pc := 128) rw_148_128 ?_)
      have t_11 : (M7.2.1 77 1).toInt = v4.toInt := congrArg Int32.toInt c_10
      exact h v4 M7 hG8 F9 (by omega) (by omega) ⟨fun k hk => (show M7.2.1 78 k = N.2.1 78 k from (W_n W6 (by omega) rfl)).trans (g7 k hk), fun _ k hk => (show M7.2.1 78 ((M.2.1 77 1).toInt.toNat + k) = N.2.1 78 ((M.2.1 77 1).toInt.toNat + k) from (W_n W6 (by omega) rfl)).trans (g6 k (by omega))⟩
    · refine to_i (pc := 30) rw_148_30 rfl (to_c (pc := 32) rw_148_32 (x := (4 : Int32)) rfl rfl (b_cge (pc := 33) rw_148_33 (A := x6.toInt) (B := 4) rfl rfl (fun h12 => ?_) (fun h12 => ?_)))
      · refine to_i (pc := 40) rw_148_40 rfl (to_c (pc := 42) rw_148_42 (x := (8 : Int32)) rfl rfl (b_cge (pc := 44) rw_148_44 (A := x6.toInt) (B := 8) rfl rfl (fun h13 => ?_) (fun h13 => ?_)))
        · refine to_i (pc := 51) rw_148_51 rfl (to_c (pc := 53) rw_148_53 (x := (12 : Int32)) rfl rfl (b_cge (pc := 55) rw_148_55 (A := x6.toInt) (B := 12) rfl rfl (fun h14 => ?_) (fun h14 => ?_)))
          · refine to_i (pc := 62) rw_148_62 rfl (to_c (pc := 64) rw_148_64 (x := (16 : Int32)) rfl rfl (b_cge (pc := 66) rw_148_66 (A := x6.toInt) (B := 16) rfl rfl (fun h15 => ?_) (fun h15 => ?_)))
            · refine to_i (pc := 74) rw_148_74 rfl (to_is (pc := 76) rw_148_76 (ls2 := [.ref 77, .int a, .int b, .int c, .int x, .int e, .int x6, .int e]) rfl rfl (to_an (pc := 78) rw_148_78 rfl (s_gR (pc := 79) rw_148_79 hG rfl (v := 78) rfl (to_an (pc := 82) rw_148_82 rfl (tt_gI (pc := 83) rw_148_83 (g_o hG rfl) (v := (N.2.1 77 1)) rfl (to_i (pc := 86) rw_148_86 rfl (s_add (pc := 88) rw_148_88 (A := (N.2.1 77 1).toInt) (B := x6.toInt) rfl rfl (by omega) (fun v16 e17 => to_i (pc := 89) rw_148_89 rfl (to_c (pc := 91) rw_148_91 (x := (24 : Int32)) rfl rfl (to_c (pc := 93) rw_148_93 (x := (8 : Int32)) rfl rfl (to_i (pc := 95) rw_148_95 rfl ?_)))))))))))
              refine to_c (pc := 97) rw_148_97 (x := (4 : Int32)) rfl rfl (s_irem (pc := 98) rw_148_98 (A := x6.toInt) (B := 4) rfl rfl (by omega) (by omega) (fun v18 e19 _ => s_mul (pc := 99) rw_148_99 (A := 8) (B := v18.toInt) rfl rfl (by omega) (fun v20 e21 => s_sub (pc := 100) rw_148_100 (A := 24) (B := v20.toInt) rfl rfl (by omega) (fun v22 e23 => s_opE (pc := 101) rw_148_101 (w := e >>> v22) rfl (fun v24 e25 => to_c (pc := 102) rw_148_102 (x := (255 : Int32)) rfl rfl (s_and (pc := 105) rw_148_105 (B := 255) rfl (by omega) (fun v26 e27 _ _ => s_ias (pc := 106) rw_148_106 hG rfl (n := 500) rfl (A := v16.toInt) rfl (by omega) (by omega) (fun M29 W28 => ?_))))))))
              have hG30 := g_w hG W28 (A := v26.toInt) rfl (lo := 0) (hi := 255) rfl rfl (by omega) (by decide)
              have F31 := FR.w F0 W28 (show 78 = 77 ∧ ((v16.toInt).toNat = 1 ∨ (v16.toInt).toNat = 2) ∨ 78 = 78 by omega)
              refine s_inc (pc := 107) rw_148_107 (ls2 := fun v => [.ref 77, .int a, .int b, .int c, .int x, .int e, .int v, .int e]) rfl rfl (fun _ => rfl) (A := x6.toInt) (B := 1) rfl rfl (by omega) (fun v32 e33 => to_go (pc := 110) rw_148_110 ?_)
              have c_34 : M29.2.1 77 1 = (N.2.1 77 1) := (W_n W28 (fun z => absurd z.1 (by decide)) rfl)
              have t_35 : (M29.2.1 77 1).toInt = (N.2.1 77 1).toInt := congrArg Int32.toInt c_34
              have z_36 : v26 = x_fb a b c x e (x6.toInt).toNat := x_fb_i (w := e) (v := v22) (k := x6.toInt) (by omega) (by omega) e25 e27 (x_w_e (by omega))
              exact ih M29 v32 (.int e) hG30 F31 (by omega) (by omega) (by omega) (by omega) (by omega) (fun j hj => by by_cases g9 : (j : Int) < x6.toInt; exact (W_n W28 (by omega) (g6 j g9)); have e9 : j = (x6.toInt).toNat := (by omega); rw [e9, show (M.2.1 77 1).toInt.toNat + (x6.toInt).toNat = (v16.toInt).toNat by omega, show M29.2.1 78 (v16.toInt).toNat = _ from W_e W28]; exact z_36) (fun j hj => W_n W28 (by omega) (g7 j hj)) (by omega)
            · refine to_i (pc := 69) rw_148_69 rfl (to_go (pc := 71) rw_148_71 (to_is (pc := 76) rw_148_76 (ls2 := [.ref 77, .int a, .int b, .int c, .int x, .int e, .int x6, .int x]) rfl rfl (to_an (pc := 78) rw_148_78 rfl (s_gR (pc := 79) rw_148_79 hG rfl (v := 78) rfl (to_an (pc := 82) rw_148_82 rfl (tt_gI (pc := 83) rw_148_83 (g_o hG rfl) (v := (N.2.1 77 1)) rfl (to_i (pc := 86) rw_148_86 rfl (s_add (pc := 88) rw_148_88 (A := (N.2.1 77 1).toInt) (B := x6.toInt) rfl rfl (by omega) (fun v37 e38 => to_i (pc := 89) rw_148_89 rfl (to_c (pc := 91) rw_148_91 (x := (24 : Int32)) rfl rfl (to_c (pc := 93) rw_148_93 (x := (8 : Int32)) rfl rfl ?_)))))))))))
              refine to_i (pc := 95) rw_148_95 rfl (to_c (pc := 97) rw_148_97 (x := (4 : Int32)) rfl rfl (s_irem (pc := 98) rw_148_98 (A := x6.toInt) (B := 4) rfl rfl (by omega) (by omega) (fun v39 e40 _ => s_mul (pc := 99) rw_148_99 (A := 8) (B := v39.toInt) rfl rfl (by omega) (fun v41 e42 => s_sub (pc := 100) rw_148_100 (A := 24) (B := v41.toInt) rfl rfl (by omega) (fun v43 e44 => s_opE (pc := 101) rw_148_101 (w := x >>> v43) rfl (fun v45 e46 => to_c (pc := 102) rw_148_102 (x := (255 : Int32)) rfl rfl (s_and (pc := 105) rw_148_105 (B := 255) rfl (by omega) (fun v47 e48 _ _ => s_ias (pc := 106) rw_148_106 hG rfl (n := 500) rfl (A := v37.toInt) rfl (by omega) (by omega) (fun M50 W49 => ?_)))))))))
              have hG51 := g_w hG W49 (A := v47.toInt) rfl (lo := 0) (hi := 255) rfl rfl (by omega) (by decide)
              have F52 := FR.w F0 W49 (show 78 = 77 ∧ ((v37.toInt).toNat = 1 ∨ (v37.toInt).toNat = 2) ∨ 78 = 78 by omega)
              refine s_inc (pc := 107) rw_148_107 (ls2 := fun v => [.ref 77, .int a, .int b, .int c, .int x, .int e, .int v, .int x]) rfl rfl (fun _ => rfl) (A := x6.toInt) (B := 1) rfl rfl (by omega) (fun v53 e54 => to_go (pc := 110) rw_148_110 ?_)
              have c_55 : M50.2.1 77 1 = (N.2.1 77 1) := (W_n W49 (fun z => absurd z.1 (by decide)) rfl)
              have t_56 : (M50.2.1 77 1).toInt = (N.2.1 77 1).toInt := congrArg Int32.toInt c_55
              have z_57 : v47 = x_fb a b c x e (x6.toInt).toNat := x_fb_i (w := x) (v := v43) (k := x6.toInt) (by omega) (by omega) e46 e48 (x_w_d (by omega) (by omega))
              exact ih M50 v53 (.int x) hG51 F52 (by omega) (by omega) (by omega) (by omega) (by omega) (fun j hj => by by_cases g9 : (j : Int) < x6.toInt; exact (W_n W49 (by omega) (g6 j g9)); have e9 : j = (x6.toInt).toNat := (by omega); rw [e9, show (M.2.1 77 1).toInt.toNat + (x6.toInt).toNat = (v37.toInt).toNat by omega, show M50.2.1 78 (v37.toInt).toNat = _ from W_e W49]; exact z_57) (fun j hj => W_n W49 (by omega) (g7 j hj)) (by omega)
          · refine to_in (pc := 58) rw_148_58 rfl (to_go (pc := 59) rw_148_59 (to_is (pc := 76) rw_148_76 (ls2 := [.ref 77, .int a, .int b, .int c, .int x, .int e, .int x6, .int c]) rfl rfl (to_an (pc := 78) rw_148_78 rfl (s_gR (pc := 79) rw_148_79 hG rfl (v := 78) rfl (to_an (pc := 82) rw_148_82 rfl (tt_gI (pc := 83) rw_148_83 (g_o hG rfl) (v := (N.2.1 77 1)) rfl (to_i (pc := 86) rw_148_86 rfl (s_add (pc := 88) rw_148_88 (A := (N.2.1 77 1).toInt) (B := x6.toInt) rfl rfl (by omega) (fun v58 e59 => to_i (pc := 89) rw_148_89 rfl (to_c (pc := 91) rw_148_91 (x := (24 : Int32)) rfl rfl (to_c (pc := 93) rw_148_93 (x := (8 : Int32)) rfl rfl ?_)))))))))))
            refine to_i (pc := 95) rw_148_95 rfl (to_c (pc := 97) rw_148_97 (x := (4 : Int32)) rfl rfl (s_irem (pc := 98) rw_148_98 (A := x6.toInt) (B := 4) rfl rfl (by omega) (by omega) (fun v60 e61 _ => s_mul (pc := 99) rw_148_99 (A := 8) (B := v60.toInt) rfl rfl (by omega) (fun v62 e63 => s_sub (pc := 100) rw_148_100 (A := 24) (B := v62.toInt) rfl rfl (by omega) (fun v64 e65 => s_opE (pc := 101) rw_148_101 (w := c >>> v64) rfl (fun v66 e67 => to_c (pc := 102) rw_148_102 (x := (255 : Int32)) rfl rfl (s_and (pc := 105) rw_148_105 (B := 255) rfl (by omega) (fun v68 e69 _ _ => s_ias (pc := 106) rw_148_106 hG rfl (n := 500) rfl (A := v58.toInt) rfl (by omega) (by omega) (fun M71 W70 => ?_)))))))))
            have hG72 := g_w hG W70 (A := v68.toInt) rfl (lo := 0) (hi := 255) rfl rfl (by omega) (by decide)
            have F73 := FR.w F0 W70 (show 78 = 77 ∧ ((v58.toInt).toNat = 1 ∨ (v58.toInt).toNat = 2) ∨ 78 = 78 by omega)
            refine s_inc (pc := 107) rw_148_107 (ls2 := fun v => [.ref 77, .int a, .int b, .int c, .int x, .int e, .int v, .int c]) rfl rfl (fun _ => rfl) (A := x6.toInt) (B := 1) rfl rfl (by omega) (fun v74 e75 => to_go (pc := 110) rw_148_110 ?_)
            have c_76 : M71.2.1 77 1 = (N.2.1 77 1) := (W_n W70 (fun z => absurd z.1 (by decide)) rfl)
            have t_77 : (M71.2.1 77 1).toInt = (N.2.1 77 1).toInt := congrArg Int32.toInt c_76
            have z_78 : v68 = x_fb a b c x e (x6.toInt).toNat := x_fb_i (w := c) (v := v64) (k := x6.toInt) (by omega) (by omega) e67 e69 (x_w_c (by omega) (by omega))
            exact ih M71 v74 (.int c) hG72 F73 (by omega) (by omega) (by omega) (by omega) (by omega) (fun j hj => by by_cases g9 : (j : Int) < x6.toInt; exact (W_n W70 (by omega) (g6 j g9)); have e9 : j = (x6.toInt).toNat := (by omega); rw [e9, show (M.2.1 77 1).toInt.toNat + (x6.toInt).toNat = (v58.toInt).toNat by omega, show M71.2.1 78 (v58.toInt).toNat = _ from W_e W70]; exact z_78) (fun j hj => W_n W70 (by omega) (g7 j hj)) (by omega)
        · refine to_in (pc := 47) rw_148_47 rfl (to_go (pc := 48) rw_148_48 (to_is (pc := 76) rw_148_76 (ls2 := [.ref 77, .int a, .int b, .int c, .int x, .int e, .int x6, .int b]) rfl rfl (to_an (pc := 78) rw_148_78 rfl (s_gR (pc := 79) rw_148_79 hG rfl (v := 78) rfl (to_an (pc := 82) rw_148_82 rfl (tt_gI (pc := 83) rw_148_83 (g_o hG rfl) (v := (N.2.1 77 1)) rfl (to_i (pc := 86) rw_148_86 rfl (s_add (pc := 88) rw_148_88 (A := (N.2.1 77 1).toInt) (B := x6.toInt) rfl rfl (by omega) (fun v79 e80 => to_i (pc := 89) rw_148_89 rfl (to_c (pc := 91) rw_148_91 (x := (24 : Int32)) rfl rfl (to_c (pc := 93) rw_148_93 (x := (8 : Int32)) rfl rfl ?_)))))))))))
          refine to_i (pc := 95) rw_148_95 rfl (to_c (pc := 97) rw_148_97 (x := (4 : Int32)) rfl rfl (s_irem (pc := 98) rw_148_98 (A := x6.toInt) (B := 4) rfl rfl (by omega) (by omega) (fun v81 e82 _ => s_mul (pc := 99) rw_148_99 (A := 8) (B := v81.toInt) rfl rfl (by omega) (fun v83 e84 => s_sub (pc := 100) rw_148_100 (A := 24) (B := v83.toInt) rfl rfl (by omega) (fun v85 e86 => s_opE (pc := 101) rw_148_101 (w := b >>> v85) rfl (fun v87 e88 => to_c (pc := 102) rw_148_102 (x := (255 : Int32)) rfl rfl (s_and (pc := 105) rw_148_105 (B := 255) rfl (by omega) (fun v89 e90 _ _ => s_ias (pc := 106) rw_148_106 hG rfl (n := 500) rfl (A := v79.toInt) rfl (by omega) (by omega) (fun M92 W91 => ?_)))))))))
          have hG93 := g_w hG W91 (A := v89.toInt) rfl (lo := 0) (hi := 255) rfl rfl (by omega) (by decide)
          have F94 := FR.w F0 W91 (show 78 = 77 ∧ ((v79.toInt).toNat = 1 ∨ (v79.toInt).toNat = 2) ∨ 78 = 78 by omega)
          refine s_inc (pc := 107) rw_148_107 (ls2 := fun v => [.ref 77, .int a, .int b, .int c, .int x, .int e, .int v, .int b]) rfl rfl (fun _ => rfl) (A := x6.toInt) (B := 1) rfl rfl (by omega) (fun v95 e96 => to_go (pc := 110) rw_148_110 ?_)
          have c_97 : M92.2.1 77 1 = (N.2.1 77 1) := (W_n W91 (fun z => absurd z.1 (by decide)) rfl)
          have t_98 : (M92.2.1 77 1).toInt = (N.2.1 77 1).toInt := congrArg Int32.toInt c_97
          have z_99 : v89 = x_fb a b c x e (x6.toInt).toNat := x_fb_i (w := b) (v := v85) (k := x6.toInt) (by omega) (by omega) e88 e90 (x_w_b (by omega) (by omega))
          exact ih M92 v95 (.int b) hG93 F94 (by omega) (by omega) (by omega) (by omega) (by omega) (fun j hj => by by_cases g9 : (j : Int) < x6.toInt; exact (W_n W91 (by omega) (g6 j g9)); have e9 : j = (x6.toInt).toNat := (by omega); rw [e9, show (M.2.1 77 1).toInt.toNat + (x6.toInt).toNat = (v79.toInt).toNat by omega, show M92.2.1 78 (v79.toInt).toNat = _ from W_e W91]; exact z_99) (fun j hj => W_n W91 (by omega) (g7 j hj)) (by omega)
      · refine to_in (pc := 36) rw_148_36 rfl (to_go (pc := 37) rw_148_37 (to_is (pc := 76) rw_148_76 (ls2 := [.ref 77, .int a, .int b, .int c, .int x, .int e, .int x6, .int a]) rfl rfl (to_an (pc := 78) rw_148_78 rfl (s_gR (pc := 79) rw_148_79 hG rfl (v := 78) rfl (to_an (pc := 82) rw_148_82 rfl (tt_gI (pc := 83) rw_148_83 (g_o hG rfl) (v := (N.2.1 77 1)) rfl (to_i (pc := 86) rw_148_86 rfl (s_add (pc := 88) rw_148_88 (A := (N.2.1 77 1).toInt) (B := x6.toInt) rfl rfl (by omega) (fun v100 e101 => to_i (pc := 89) rw_148_89 rfl (to_c (pc := 91) rw_148_91 (x := (24 : Int32)) rfl rfl (to_c (pc := 93) rw_148_93 (x := (8 : Int32)) rfl rfl ?_)))))))))))
        refine to_i (pc := 95) rw_148_95 rfl (to_c (pc := 97) rw_148_97 (x := (4 : Int32)) rfl rfl (s_irem (pc := 98) rw_148_98 (A := x6.toInt) (B := 4) rfl rfl (by omega) (by omega) (fun v102 e103 _ => s_mul (pc := 99) rw_148_99 (A := 8) (B := v102.toInt) rfl rfl (by omega) (fun v104 e105 => s_sub (pc := 100) rw_148_100 (A := 24) (B := v104.toInt) rfl rfl (by omega) (fun v106 e107 => s_opE (pc := 101) rw_148_101 (w := a >>> v106) rfl (fun v108 e109 => to_c (pc := 102) rw_148_102 (x := (255 : Int32)) rfl rfl (s_and (pc := 105) rw_148_105 (B := 255) rfl (by omega) (fun v110 e111 _ _ => s_ias (pc := 106) rw_148_106 hG rfl (n := 500) rfl (A := v100.toInt) rfl (by omega) (by omega) (fun M113 W112 => ?_)))))))))
        have hG114 := g_w hG W112 (A := v110.toInt) rfl (lo := 0) (hi := 255) rfl rfl (by omega) (by decide)
        have F115 := FR.w F0 W112 (show 78 = 77 ∧ ((v100.toInt).toNat = 1 ∨ (v100.toInt).toNat = 2) ∨ 78 = 78 by omega)
        refine s_inc (pc := 107) rw_148_107 (ls2 := fun v => [.ref 77, .int a, .int b, .int c, .int x, .int e, .int v, .int a]) rfl rfl (fun _ => rfl) (A := x6.toInt) (B := 1) rfl rfl (by omega) (fun v116 e117 => to_go (pc := 110) rw_148_110 ?_)
        have c_118 : M113.2.1 77 1 = (N.2.1 77 1) := (W_n W112 (fun z => absurd z.1 (by decide)) rfl)
        have t_119 : (M113.2.1 77 1).toInt = (N.2.1 77 1).toInt := congrArg Int32.toInt c_118
        have z_120 : v110 = x_fb a b c x e (x6.toInt).toNat := x_fb_i (w := a) (v := v106) (k := x6.toInt) (by omega) (by omega) e109 e111 (x_w_a (by omega) (by omega))
        exact ih M113 v116 (.int a) hG114 F115 (by omega) (by omega) (by omega) (by omega) (by omega) (fun j hj => by by_cases g9 : (j : Int) < x6.toInt; exact (W_n W112 (by omega) (g6 j g9)); have e9 : j = (x6.toInt).toNat := (by omega); rw [e9, show (M.2.1 77 1).toInt.toNat + (x6.toInt).toNat = (v100.toInt).toNat by omega, show M113.2.1 78 (v100.toInt).toNat = _ from W_e W112]; exact z_120) (fun j hj => W_n W112 (by omega) (g7 j hj)) (by omega)
set_option maxRecDepth 4000 in
set_option maxHeartbeats 0 in
theorem E_148 {X : mm_X} {d : Nat} {M : mm_M} {Q : Option Value → mm_M → Prop} {a : Int32} {b : Int32} {c : Int32} {x : Int32} {e : Int32} (hX : g_X X) (hd : 0 ≤ d) (hG : g_G M) (h : ∀ (r : Int32) (M1 : mm_M), g_G M1 → FR md_fe M M1 → (480 < (M.2.1 77 1).toInt → r.toInt = -1 ∧ (M1.2.1 77 1).toInt = (M.2.1 77 1).toInt) → ((M.2.1 77 1).toInt ≤ 480 → r.toInt = (M.2.1 77 1).toInt + 20 ∧ (M1.2.1 77 1).toInt = (M.2.1 77 1).toInt + 20) → (FDr M M1 a b c x e) → Q (some (.int r)) M1) : mm_T X d 147 0 [.ref 77, .int a, .int b, .int c, .int x, .int e, .null, .null] [] M Q := by
  have F0 : FR md_fe M M := FR.rf
  have b_121 := g_b hG (a := 77) (i := 1) (lo := 0) (hi := 500) rfl rfl
  refine to_an (pc := 0) rw_148_0 rfl (to_c (pc := 1) rw_148_1 (x := (0 : Int32)) rfl rfl (s_pI (pc := 2) rw_148_2 hG rfl (fun M123 W122 => ?_)))
  have hG124 := g_wf hG W122 rfl rfl (by decide)
  have F125 := FR.w F0 W122 (show 77 = 77 ∧ (2 = 1 ∨ 2 = 2) ∨ 77 = 78 by decide)
  refine to_an (pc := 5) rw_148_5 rfl ?_
  have c_126 : M123.2.1 77 1 = (M.2.1 77 1) := (W_n W122 (by decide) rfl)
  refine tt_gI (pc := 6) rw_148_6 (g_o hG124 rfl) (v := (M.2.1 77 1)) c_126 (to_c (pc := 9) rw_148_9 (x := (20 : Int32)) rfl rfl (s_add (pc := 11) rw_148_11 (A := (M.2.1 77 1).toInt) (B := 20) rfl rfl (by omega) (fun v127 e128 => to_c (pc := 12) rw_148_12 (x := (500 : Int32)) rfl rfl (b_cle (pc := 15) rw_148_15 (A := v127.toInt) (B := 500) rfl rfl (fun h129 => ?_) (fun h129 => ?_)))))
  · refine to_c (pc := 20) rw_148_20 (x := (0 : Int32)) rfl rfl (to_is (pc := 21) rw_148_21 (ls2 := [.ref 77, .int a, .int b, .int c, .int x, .int e, .int (0 : Int32), .null]) rfl rfl ?_)
    have k_130 : (0 : Int32).toInt = 0 := rfl
    have t_131 : (M123.2.1 77 1).toInt = (M.2.1 77 1).toInt := congrArg Int32.toInt c_126
    exact (U_148_0 (a := a) (b := b) (c := c) (x := x) (e := e) hX hd  h ((20 - (0 : Int32).toInt).toNat + 1)) M123 (0 : Int32) (.null) hG124 F125 (by omega) (by omega) (by omega) (by omega) (by omega) (fun j hj => by exfalso; rw [show (0 : Int32).toInt = 0 from rfl] at hj; omega) (fun j hj => (W_n W122 (by omega) rfl)) (by omega)
  · refine to_c (pc := 18) rw_148_18 (x := (-1 : Int32)) rfl rfl (to_r0 (pc := 19) rw_148_19 ?_)
    have k_132 : (-1 : Int32).toInt = -1 := rfl
    have t_133 : (M123.2.1 77 1).toInt = (M.2.1 77 1).toInt := congrArg Int32.toInt c_126
    exact h (-1 : Int32) M123 hG124 F125 (by omega) (by omega) (FDr_0 (by omega) (fun k => (W_n W122 (by omega) rfl)))
set_option maxRecDepth 4000 in
set_option maxHeartbeats 0 in
theorem E_111 {X : mm_X} {d : Nat} {M : mm_M} {Q : Option Value → mm_M → Prop} {n : Int32} {p : Nat} {pz : Nat} {q : Nat} {qz : Nat} {t : Nat → Int} {nn : Int} (hX : g_X X) (hd : 6 ≤ d) (hG : g_G M) (hp : p = 49 ∨ p = 58) (hpz : pz = 49 ∨ pz = 58) (hq : q = 67 ∨ q = 72) (hqz : qz = 67 ∨ qz = 72) (q1 : g_PQ M p pz q qz) (q2 : 0 ≤ n.toInt ∧ n.toInt ≤ (M.2.1 1 1).toInt → n.toInt = nn) (q3 : TT M t nn) (q4 : g_W X) (q5 : p ≠ pz) (h : ∀ (r : Int32) (M1 : mm_M), g_G M1 → FRX md_X M M1 → (n.toInt < 0 ∨ (M.2.1 1 1).toInt < n.toInt → r.toInt = -2) → ((0 ≤ n.toInt ∧ n.toInt ≤ (M.2.1 1 1).toInt → PAN (x_plan t nn 23 0 x_s0 (x_sk t nn 0)) r.toInt)) → (-2 ≤ r.toInt) → (r.toInt < 0 → (M1.2.1 0 12).toInt = (M.2.1 0 12).toInt ∧ (M1.2.1 6 0).toInt = (M.2.1 6 0).toInt ∧ (M1.2.1 17 4).toInt = (M.2.1 17 4).toInt) → (0 ≤ r.toInt → (M1.2.1 0 12).toInt = 0 ∧ (M1.2.1 6 0).toInt = 0 ∧ (M1.2.1 17 4).toInt = 0) → ((r.toInt < 0 → ∀ s9 : x_S, PLs2 M p s9 → TPl M1 s9)) → ((0 ≤ r.toInt → ∃ s2 : x_S, x_plan t nn 23 0 x_s0 (x_sk t nn 0) = some (r.toInt, s2) ∧ TPl M1 s2)) → (M1.2.2.2 0 8 ≠ M1.2.2.2 0 9) → ((r.toInt < 0 → ∀ a i : Nat, (6 ≤ a ∧ a ≤ 10 ∨ a = 0 ∧ i = 12) → M1.2.1 a i = M.2.1 a i)) → Q (some (.int r)) M1) : mm_T X d 111 0 [.ref 0, .int n, .null] [] M Q := by
  have F0 : FRX md_X M M := FRX.rf
  have b_1 := g_b hG (a := 1) (i := 1) (lo := 0) (hi := 500) rfl rfl
  refine to_an (pc := 0) rw_111_0 rfl (s_gR (pc := 1) rw_111_1 hG rfl (v := 1) rfl (to_in (pc := 4) rw_111_4 rfl (s_v (pc := 5) rw_111_5 (dp0 hd (by decide)) (ls0 := [.ref 1, .int n]) rfl (Nat.le_of_ble_eq_true rfl) (Nat.le_of_ble_eq_true rfl) rfl (to_rc rfl rfl rfl (g_o hG rfl)) rfl (E_78 hX (dp1 hd (by decide)) hG (by omega) q3 q4 (n := n) (fun r2 M10 hG4 F3 p_5 p_6 p_7 p_8 p_9 => ?_)))))
  have F11 := FRX.c F0 F3 tg_180
  have b_12 := g_b hG4 (a := 1) (i := 1) (lo := 0) (hi := 500) rfl rfl
  rcases (show r2.toInt = 0 ∨ r2.toInt = 1 by omega) with h13 | h13
  · skip
    clear p_9
    refine b_ine_f (pc := 8) rw_111_8 (A := r2.toInt) rfl (by omega) (to_c (pc := 11) rw_111_11 (x := (-2 : Int32)) rfl rfl (to_r0 (pc := 13) rw_111_13 ?_))
    have k_14 : (-2 : Int32).toInt = -2 := rfl
    have c_15 : M10.2.1 0 12 = (M.2.1 0 12) := (F_n F3 (show ¬ (0 = 1 ∨ 3 ≤ 0 ∧ 0 ≤ 5) by decide) rfl)
    have b_16 := g_b hG (a := 0) (i := 12) (lo := 0) (hi := 30) rfl rfl
    have t_17 : (M10.2.1 0 12).toInt = (M.2.1 0 12).toInt := congrArg Int32.toInt c_15
    have c_18 : M10.2.1 6 0 = (M.2.1 6 0) := (F_n F3 (show ¬ (6 = 1 ∨ 3 ≤ 6 ∧ 6 ≤ 5) by decide) rfl)
    have b_19 := g_b hG (a := 6) (i := 0) (lo := 0) (hi := 150) rfl rfl
    have t_20 : (M10.2.1 6 0).toInt = (M.2.1 6 0).toInt := congrArg Int32.toInt c_18
    have c_21 : M10.2.1 17 4 = (M.2.1 17 4) := (F_n F3 (show ¬ (17 = 1 ∨ 3 ≤ 17 ∧ 17 ≤ 5) by decide) rfl)
    have t_22 : (M10.2.1 17 4).toInt = (M.2.1 17 4).toInt := congrArg Int32.toInt c_21
    have j_23 := (PQ_f F3 q1)
    exact h (-2 : Int32) M10 hG4 F11 (by omega) (fun z => by exfalso; omega) (by omega) (by omega) (by omega) (fun _ s9 h9 => ⟨p, hp, j_23.1, PLs2_f (fun a i z => ⟨(F_n F3 (show ¬ (a = 1 ∨ 3 ≤ a ∧ a ≤ 5) by omega) rfl), (F_nl F3 (show ¬ (a = 1 ∨ 3 ≤ a ∧ a ≤ 5) by omega) rfl)⟩) h9⟩) (fun z => by exfalso; omega) (by rw [j_23.1, j_23.2.1]; exact fun z => q5 (Option.some.inj z)) (fun _ a i z => (F_n F3 (show ¬ (a = 1 ∨ 3 ≤ a ∧ a ≤ 5) by omega) rfl))
  · skip
    have p_24 := p_9 (by omega)
    clear p_9
    have z_25 := p_24.2
    refine b_ine_t (pc := 8) rw_111_8 (A := r2.toInt) rfl (by omega) (to_an (pc := 14) rw_111_14 rfl ?_)
    have j_26 := (PQ_f F3 q1)
    refine tt_gR (pc := 15) rw_111_15 (g_o hG4 rfl) j_26.2.1 (to_an (pc := 18) rw_111_18 rfl (s_gR (pc := 19) rw_111_19 hG4 rfl (v := 1) rfl (s_v (pc := 22) rw_111_22 (dp0 hd (by decide)) (ls0 := [.ref pz, .ref 1, .null]) rfl (Nat.le_of_ble_eq_true rfl) (Nat.le_of_ble_eq_true rfl) rfl (to_rc rfl rfl rfl (g_o hG4 (by rcases hpz with rfl | rfl <;> rfl))) rfl (E_30 hX (dp1 hd (by decide)) hG4 hpz p_24.1 (by omega) (p := pz) (t := t) (nn := nn) (a := (x_sk t nn 0)) (fun r27 M36 hG29 F28 p_30 p_31 p_32 p_33 p_34 p_35 => ?_)))))
    have F37 := FRX.c F11 F28 (fun a i z => show a ≤ 76 ∧ ¬ a = 2 by have z : a = 1 ∧ 6 ≤ i ∧ i ≤ 11 ∨ pz ≤ a ∧ a ≤ pz + 8 := z; omega)
    rcases (show r27.toInt = 0 ∨ r27.toInt = 1 by omega) with h38 | h38
    · skip
      have p_39 := p_34 (by omega)
      clear p_33 p_34 p_35
      refine b_ine_f (pc := 25) rw_111_25 (A := r27.toInt) rfl (by omega) (to_c (pc := 28) rw_111_28 (x := (-1 : Int32)) rfl rfl (to_r0 (pc := 29) rw_111_29 ?_))
      have k_40 : (-1 : Int32).toInt = -1 := rfl
      have c_41 : M36.2.1 0 12 = (M.2.1 0 12) := (F_n F28 (show ¬ (0 = 1 ∧ 6 ≤ 12 ∧ 12 ≤ 11 ∨ pz ≤ 0 ∧ 0 ≤ pz + 8) by omega) (F_n F3 (show ¬ (0 = 1 ∨ 3 ≤ 0 ∧ 0 ≤ 5) by decide) rfl))
      have b_42 := g_b hG (a := 0) (i := 12) (lo := 0) (hi := 30) rfl rfl
      have t_43 : (M36.2.1 0 12).toInt = (M.2.1 0 12).toInt := congrArg Int32.toInt c_41
      have c_44 : M36.2.1 6 0 = (M.2.1 6 0) := (F_n F28 (show ¬ (6 = 1 ∧ 6 ≤ 0 ∧ 0 ≤ 11 ∨ pz ≤ 6 ∧ 6 ≤ pz + 8) by omega) (F_n F3 (show ¬ (6 = 1 ∨ 3 ≤ 6 ∧ 6 ≤ 5) by decide) rfl))
      have b_45 := g_b hG (a := 6) (i := 0) (lo := 0) (hi := 150) rfl rfl
      have t_46 : (M36.2.1 6 0).toInt = (M.2.1 6 0).toInt := congrArg Int32.toInt c_44
      have c_47 : M36.2.1 17 4 = (M.2.1 17 4) := (F_n F28 (show ¬ (17 = 1 ∧ 6 ≤ 4 ∧ 4 ≤ 11 ∨ pz ≤ 17 ∧ 17 ≤ pz + 8) by omega) (F_n F3 (show ¬ (17 = 1 ∨ 3 ≤ 17 ∧ 17 ≤ 5) by decide) rfl))
      have t_48 : (M36.2.1 17 4).toInt = (M.2.1 17 4).toInt := congrArg Int32.toInt c_47
      have j_49 := (PQ_f F28 j_26)
      exact h (-1 : Int32) M36 hG29 F37 (by omega) (fun _ => Or.inl ⟨p_39, rfl⟩) (by omega) (by omega) (by omega) (fun _ s9 h9 => ⟨p, hp, j_49.1, PLs2_f (fun a i z => ⟨(F_n F28 (show ¬ (a = 1 ∧ 6 ≤ i ∧ i ≤ 11 ∨ pz ≤ a ∧ a ≤ pz + 8) by omega) (F_n F3 (show ¬ (a = 1 ∨ 3 ≤ a ∧ a ≤ 5) by omega) rfl)), (F_nl F28 (show ¬ (a = 1 ∧ 6 ≤ i ∧ i ≤ 11 ∨ pz ≤ a ∧ a ≤ pz + 8) by omega) (F_nl F3 (show ¬ (a = 1 ∨ 3 ≤ a ∧ a ≤ 5) by omega) rfl))⟩) h9⟩) (fun z => by exfalso; omega) (by rw [j_49.1, j_49.2.1]; exact fun z => q5 (Option.some.inj z)) (fun _ a i z => (F_n F28 (show ¬ (a = 1 ∧ 6 ≤ i ∧ i ≤ 11 ∨ pz ≤ a ∧ a ≤ pz + 8) by omega) (F_n F3 (show ¬ (a = 1 ∨ 3 ≤ a ∧ a ≤ 5) by omega) rfl)))
    · skip
      have p_50 := p_33 (by omega)
      have p_51 := p_35 (by omega)
      clear p_33 p_34 p_35
      refine b_ine_t (pc := 25) rw_111_25 (A := r27.toInt) rfl (by omega) (to_an (pc := 30) rw_111_30 rfl ?_)
      have j_52 := (PQ_f F28 j_26)
      refine tt_gR (pc := 31) rw_111_31 (g_o hG29 rfl) j_52.1 (to_asn (pc := 34) rw_111_34 (ls2 := [.ref 0, .int n, .ref p]) rfl rfl (to_an (pc := 35) rw_111_35 rfl (to_an (pc := 36) rw_111_36 rfl (tt_gR (pc := 37) rw_111_37 (g_o hG29 rfl) j_52.2.1 (s_pR (pc := 40) rw_111_40 hG29 rfl (by rcases hpz with rfl | rfl <;> rfl) (fun M54 W53 => ?_))))))
      have hG55 := g_wr hG29 W53 rfl
      have F56 := FRX.wr F37 W53
      have j_57 := PQ_s8 W53 j_52
      refine to_an (pc := 43) rw_111_43 rfl (to_an (pc := 44) rw_111_44 rfl (s_pR (pc := 45) rw_111_45 hG55 rfl (by rcases hp with rfl | rfl <;> rfl) (fun M59 W58 => ?_)))
      have hG60 := g_wr hG55 W58 rfl
      have F61 := FRX.wr F56 W58
      have j_62 := PQ_s9 W58 j_57
      refine to_an (pc := 48) rw_111_48 rfl (to_c (pc := 49) rw_111_49 (x := (0 : Int32)) rfl rfl (s_pI (pc := 50) rw_111_50 hG60 rfl (fun M64 W63 => ?_)))
      have hG65 := g_w hG60 W63 (A := 0) rfl (lo := 0) (hi := 30) rfl rfl (by omega) (by decide)
      have F66 := FRX.w F61 W63 (show 0 ≤ 76 ∧ ¬ 0 = 2 by decide)
      refine to_an (pc := 53) rw_111_53 rfl (s_gR (pc := 54) rw_111_54 hG65 rfl (v := 6) rfl (to_c (pc := 57) rw_111_57 (x := (0 : Int32)) rfl rfl (s_pI (pc := 58) rw_111_58 hG65 rfl (fun M68 W67 => ?_))))
      have hG69 := g_w hG65 W67 (A := 0) rfl (lo := 0) (hi := 150) rfl rfl (by omega) (by decide)
      have F70 := FRX.w F66 W67 (show 6 ≤ 76 ∧ ¬ 6 = 2 by decide)
      refine to_an (pc := 61) rw_111_61 rfl ?_
      have j_71 := (PQ_w W67 (PQ_w W63 j_62))
      refine tt_gR (pc := 62) rw_111_62 (g_o hG69 rfl) j_71.2.2.1 (s_v (pc := 65) rw_111_65 (dp0 hd (by decide)) (ls0 := [.ref q]) rfl (Nat.le_of_ble_eq_true rfl) (Nat.le_of_ble_eq_true rfl) rfl (to_rc rfl rfl rfl (g_o hG69 (by rcases hq with rfl | rfl <;> rfl))) rfl (to_an (pc := 0) rw_56_0 rfl (to_c (pc := 1) rw_56_1 (x := (0 : Int32)) rfl rfl (s_pI (pc := 2) rw_56_2 hG69 (by rcases hq with rfl | rfl <;> rfl) (fun M73 W72 => ?_)))))
      have hG74 := g_w hG69 W72 (A := 0) rfl (lo := 0) (hi := 40) (by rcases hq with rfl | rfl <;> rfl) (by rcases hq with rfl | rfl <;> rfl) (by omega) (by omega)
      have F75 := FRX.w F70 W72 (show q ≤ 76 ∧ ¬ q = 2 by omega)
      refine to_an (pc := 5) rw_56_5 rfl (to_c (pc := 6) rw_56_6 (x := (0 : Int32)) rfl rfl (s_pI (pc := 7) rw_56_7 hG74 (by rcases hq with rfl | rfl <;> rfl) (fun M77 W76 => ?_)))
      have hG78 := g_w hG74 W76 (A := 0) rfl (lo := 0) (hi := 40) (by rcases hq with rfl | rfl <;> rfl) (by rcases hq with rfl | rfl <;> rfl) (by omega) (by omega)
      have F79 := FRX.w F75 W76 (show q ≤ 76 ∧ ¬ q = 2 by omega)
      refine to_rv (pc := 10) rw_56_10 (to_an (pc := 68) rw_111_68 rfl (s_gR (pc := 69) rw_111_69 hG78 rfl (v := 17) rfl (s_v (pc := 72) rw_111_72 (dp0 hd (by decide)) (ls0 := [.ref 17, .null]) rfl (Nat.le_of_ble_eq_true rfl) (Nat.le_of_ble_eq_true rfl) rfl (to_rc rfl rfl rfl (g_o hG78 rfl)) rfl (C_22 hX (dp1 hd (by decide)) hG78  (fun M83 hG81 F80 p_82 => ?_)))))
      have F84 := FRX.c F79 F80 tg_182
      refine to_an (pc := 75) rw_111_75 rfl ?_
      have j_85 := (PQ_f F80 (PQ_w W76 (PQ_w W72 j_71)))
      refine tt_gR (pc := 76) rw_111_76 (g_o hG81 rfl) j_85.1 ?_
      have c_86 : M83.2.1 pz 1 = (M36.2.1 pz 1) := (F_n F80 (show ¬ (17 ≤ pz ∧ pz ≤ 27) by omega) (W_n W76 (by omega) (W_n W72 (by omega) (W_n W67 (by omega) (W_n W63 (by omega) (W_rf W58 (W_rf W53 rfl)))))))
      refine tt_gI (pc := 79) rw_111_79 (g_o hG81 (by rcases hpz with rfl | rfl <;> rfl)) (v := (M36.2.1 pz 1)) c_86 (to_r0 (pc := 82) rw_111_82 ?_)
      have c_87 : M83.2.1 0 12 = (0 : Int32) := (F_n F80 (show ¬ (17 ≤ 0 ∧ 0 ≤ 27) by decide) (W_n W76 (by omega) (W_n W72 (by omega) (W_n W67 (by decide) (W_e W63)))))
      have k_88 : (0 : Int32).toInt = 0 := rfl
      have t_89 : (M83.2.1 0 12).toInt = (0 : Int32).toInt := congrArg Int32.toInt c_87
      have c_90 : M83.2.1 6 0 = (0 : Int32) := (F_n F80 (show ¬ (17 ≤ 6 ∧ 6 ≤ 27) by decide) (W_n W76 (by omega) (W_n W72 (by omega) (W_e W67))))
      have t_91 : (M83.2.1 6 0).toInt = (0 : Int32).toInt := congrArg Int32.toInt c_90
      exact h (M36.2.1 pz 1) M83 hG81 F84 (by omega) (fun _ => Or.inr (Exists.elim p_51 (fun s2 h9 => ⟨s2, h9.1⟩))) (by omega) (by omega) (by omega) (fun z => by exfalso; omega) (fun _ => Exists.elim p_51 (fun s2 h9 => ⟨s2, h9.1, pz, hpz, j_85.1, PLs2_f (fun a i z => ⟨(F_n F80 (show ¬ (17 ≤ a ∧ a ≤ 27) by omega) (W_n W76 (by omega) (W_n W72 (by omega) (W_n W67 (by /-r6,0-/ omega) (W_n W63 (by /-r0,12-/ omega) (W_rf W58 (W_rf W53 rfl))))))), (F_nl F80 (show ¬ (17 ≤ a ∧ a ≤ 27) by omega) (W_j W76 (W_j W72 (W_j W67 (W_j W63 (W_rl W58 (W_rl W53 rfl)))))))⟩) (PLs2_c h9.2)⟩)) (by rw [j_85.1, j_85.2.1]; exact fun z => q5 (Option.some.inj z.symm)) (fun z => by exfalso; omega)
theorem D_111 {X : mm_X} {d : Nat} {M : mm_M} {Q : Option Value → mm_M → Prop} {n : Int32} {p : Nat} {pz : Nat} {q : Nat} {qz : Nat} {t : Nat → Int} {nn : Int} (hX : g_X X) (hd : 6 ≤ d) (hG : g_G M) (hp : p = 49 ∨ p = 58) (hpz : pz = 49 ∨ pz = 58) (hq : q = 67 ∨ q = 72) (hqz : qz = 67 ∨ qz = 72) (q1 : g_PQ M p pz q qz) (q2 : PI M) (q3 : NI M) (q4 : QI M) (q5 : 0 ≤ n.toInt ∧ n.toInt ≤ (M.2.1 1 1).toInt → n.toInt = nn) (q6 : TT M t nn) (q7 : g_W X) (q8 : p ≠ pz) (h : ∀ (r : Int32) (M1 : mm_M), g_G M1 → FRX md_X M M1 → (n.toInt < 0 ∨ (M.2.1 1 1).toInt < n.toInt → (M1.2.1 1 1).toInt = (M.2.1 1 1).toInt) → (0 ≤ n.toInt ∧ n.toInt ≤ (M.2.1 1 1).toInt → (M1.2.1 1 1).toInt = 0) → PI M1 → g_PP M1 p pz q qz → NI M1 → QI M1 → (n.toInt < 0 ∨ (M.2.1 1 1).toInt < n.toInt → r.toInt = -2) → ((0 ≤ n.toInt ∧ n.toInt ≤ (M.2.1 1 1).toInt → PAN (x_plan t nn 23 0 x_s0 (x_sk t nn 0)) r.toInt)) → (-2 ≤ r.toInt) → (r.toInt < 0 → (M1.2.1 0 12).toInt = (M.2.1 0 12).toInt ∧ (M1.2.1 6 0).toInt = (M.2.1 6 0).toInt ∧ (M1.2.1 17 4).toInt = (M.2.1 17 4).toInt) → (0 ≤ r.toInt → (M1.2.1 0 12).toInt = 0 ∧ (M1.2.1 6 0).toInt = 0 ∧ (M1.2.1 17 4).toInt = 0) → ((r.toInt < 0 → ∀ s9 : x_S, PLs2 M p s9 → TPl M1 s9)) → ((0 ≤ r.toInt → ∃ s2 : x_S, x_plan t nn 23 0 x_s0 (x_sk t nn 0) = some (r.toInt, s2) ∧ TPl M1 s2)) → (M1.2.2.2 0 8 ≠ M1.2.2.2 0 9) → ((r.toInt < 0 → ∀ a i : Nat, (6 ≤ a ∧ a ≤ 10 ∨ a = 0 ∧ i = 12) → M1.2.1 a i = M.2.1 a i)) → Q (some (.int r)) M1) : mm_T X d 111 0 [.ref 0, .int n, .null] [] M Q := by
  refine T_im (T_and (C_111 hX (by omega) hG hp hpz hq hqz q1 q2 q3 q4 (p := p) (pz := pz) (q := q) (qz := qz) (n := n) (Q := (fun v M1 => ∃ r : Int32, v = some (.int r) ∧ g_G M1 ∧ FRX md_X M M1 ∧ (n.toInt < 0 ∨ (M.2.1 1 1).toInt < n.toInt → (M1.2.1 1 1).toInt = (M.2.1 1 1).toInt) ∧ (0 ≤ n.toInt ∧ n.toInt ≤ (M.2.1 1 1).toInt → (M1.2.1 1 1).toInt = 0) ∧ PI M1 ∧ g_PP M1 p pz q qz ∧ NI M1 ∧ QI M1)) (fun r M1 a0 a1 a2 a3 a4 a5 a6 a7 => ⟨r, rfl, a0, a1, a2, a3, a4, a5, a6, a7⟩)) (E_111 hX (by omega) hG hp hpz hq hqz q1 q5 q6 q7 q8 (p := p) (pz := pz) (q := q) (qz := qz) (t := t) (nn := nn) (n := n) (Q := (fun v M1 => ∃ r : Int32, v = some (.int r) ∧ (n.toInt < 0 ∨ (M.2.1 1 1).toInt < n.toInt → r.toInt = -2) ∧ ((0 ≤ n.toInt ∧ n.toInt ≤ (M.2.1 1 1).toInt → PAN (x_plan t nn 23 0 x_s0 (x_sk t nn 0)) r.toInt)) ∧ (-2 ≤ r.toInt) ∧ (r.toInt < 0 → (M1.2.1 0 12).toInt = (M.2.1 0 12).toInt ∧ (M1.2.1 6 0).toInt = (M.2.1 6 0).toInt ∧ (M1.2.1 17 4).toInt = (M.2.1 17 4).toInt) ∧ (0 ≤ r.toInt → (M1.2.1 0 12).toInt = 0 ∧ (M1.2.1 6 0).toInt = 0 ∧ (M1.2.1 17 4).toInt = 0) ∧ ((r.toInt < 0 → ∀ s9 : x_S, PLs2 M p s9 → TPl M1 s9)) ∧ ((0 ≤ r.toInt → ∃ s2 : x_S, x_plan t nn 23 0 x_s0 (x_sk t nn 0) = some (r.toInt, s2) ∧ TPl M1 s2)) ∧ (M1.2.2.2 0 8 ≠ M1.2.2.2 0 9) ∧ ((r.toInt < 0 → ∀ a i : Nat, (6 ≤ a ∧ a ≤ 10 ∨ a = 0 ∧ i = 12) → M1.2.1 a i = M.2.1 a i)))) (fun r M1 _ _ b0 b1 b2 b3 b4 b5 b6 b7 b8 => ⟨r, rfl, b0, b1, b2, b3, b4, b5, b6, b7, b8⟩))) ?_
  intro v M1 hh
  obtain ⟨⟨r, hv, a0, a1, a2, a3, a4, a5, a6, a7⟩, ⟨r2, hv2, b0, b1, b2, b3, b4, b5, b6, b7, b8⟩⟩ := hh
  have e : r2 = r := by
    rw [hv] at hv2
    injection hv2 with z
    injection z with z
    exact z.symm
  subst e
  subst hv
  exact h _ M1 a0 a1 a2 a3 a4 a5 a6 a7 b0 b1 b2 b3 b4 b5 b6 b7 b8
theorem D_173 {X : mm_X} {d : Nat} {M : mm_M} {Q : Option Value → mm_M → Prop} {n : Int32} {t : Nat → Int} {nn : Int} (hX : g_X X) (hd : 5 ≤ d) (hG : g_G M) (q1 : (M.2.1 77 7).toInt ≤ (M.2.1 77 6).toInt) (q2 : FA M) (q3 : WC M) (q4 : NJ M) (q5 : PS M) (q6 : KQ M) (q7 : 0 ≤ n.toInt ∧ n.toInt ≤ (M.2.1 77 1).toInt → n.toInt = nn) (q8 : TR M t nn) (q9 : W9 M) (h : ∀ (r : Int32) (M1 : mm_M), g_G M1 → FR md_P M M1 → ((M1.2.1 77 7).toInt ≤ (M1.2.1 77 6).toInt) → FA M1 → WC M1 → NJ M1 → PS M1 → KQ M1 → (n.toInt < 0 ∨ (M.2.1 77 1).toInt < n.toInt → (M1.2.1 77 1).toInt = (M.2.1 77 1).toInt) → (0 ≤ n.toInt ∧ n.toInt ≤ (M.2.1 77 1).toInt → (M1.2.1 77 1).toInt = 0) → (n.toInt < 0 ∨ (M.2.1 77 1).toInt < n.toInt → r.toInt = -2) → ((0 ≤ n.toInt ∧ n.toInt ≤ (M.2.1 77 1).toInt → PAN (x_plan t nn 23 0 x_s0 (x_sk t nn 0)) r.toInt)) → (-2 ≤ r.toInt) → (r.toInt < 0 → (M1.2.1 77 28).toInt = (M.2.1 77 28).toInt ∧ (M1.2.1 77 29).toInt = (M.2.1 77 29).toInt ∧ (M1.2.1 77 41).toInt = (M.2.1 77 41).toInt) → (0 ≤ r.toInt → (M1.2.1 77 28).toInt = 0 ∧ (M1.2.1 77 29).toInt = 0 ∧ (M1.2.1 77 41).toInt = 0) → ((r.toInt < 0 → ∀ s9 : x_S, PLk2 M s9 → PLk2 M1 s9)) → ((0 ≤ r.toInt → ∃ s2 : x_S, x_plan t nn 23 0 x_s0 (x_sk t nn 0) = some (r.toInt, s2) ∧ PLk2 M1 s2)) → Q (some (.int r)) M1) : mm_T X d 172 0 [.ref 77, .int n, .null] [] M Q := by
  refine T_im (T_and (C_173 hX (by omega) hG q1 q2 q3 q4 q5 q6 (n := n) (Q := (fun v M1 => ∃ r : Int32, v = some (.int r) ∧ g_G M1 ∧ FR md_P M M1 ∧ ((M1.2.1 77 7).toInt ≤ (M1.2.1 77 6).toInt) ∧ FA M1 ∧ WC M1 ∧ NJ M1 ∧ PS M1 ∧ KQ M1 ∧ (n.toInt < 0 ∨ (M.2.1 77 1).toInt < n.toInt → (M1.2.1 77 1).toInt = (M.2.1 77 1).toInt) ∧ (0 ≤ n.toInt ∧ n.toInt ≤ (M.2.1 77 1).toInt → (M1.2.1 77 1).toInt = 0))) (fun r M1 a0 a1 a2 a3 a4 a5 a6 a7 a8 a9 => ⟨r, rfl, a0, a1, a2, a3, a4, a5, a6, a7, a8, a9⟩)) (E_173 hX (by omega) hG q1 q7 q8 q9 (t := t) (nn := nn) (n := n) (Q := (fun v M1 => ∃ r : Int32, v = some (.int r) ∧ (n.toInt < 0 ∨ (M.2.1 77 1).toInt < n.toInt → r.toInt = -2) ∧ ((0 ≤ n.toInt ∧ n.toInt ≤ (M.2.1 77 1).toInt → PAN (x_plan t nn 23 0 x_s0 (x_sk t nn 0)) r.toInt)) ∧ (-2 ≤ r.toInt) ∧ (r.toInt < 0 → (M1.2.1 77 28).toInt = (M.2.1 77 28).toInt ∧ (M1.2.1 77 29).toInt = (M.2.1 77 29).toInt ∧ (M1.2.1 77 41).toInt = (M.2.1 77 41).toInt) ∧ (0 ≤ r.toInt → (M1.2.1 77 28).toInt = 0 ∧ (M1.2.1 77 29).toInt = 0 ∧ (M1.2.1 77 41).toInt = 0) ∧ ((r.toInt < 0 → ∀ s9 : x_S, PLk2 M s9 → PLk2 M1 s9)) ∧ ((0 ≤ r.toInt → ∃ s2 : x_S, x_plan t nn 23 0 x_s0 (x_sk t nn 0) = some (r.toInt, s2) ∧ PLk2 M1 s2)))) (fun r M1 _ _ b0 b1 b2 b3 b4 b5 b6 => ⟨r, rfl, b0, b1, b2, b3, b4, b5, b6⟩))) ?_
  intro v M1 hh
  obtain ⟨⟨r, hv, a0, a1, a2, a3, a4, a5, a6, a7, a8, a9⟩, ⟨r2, hv2, b0, b1, b2, b3, b4, b5, b6⟩⟩ := hh
  have e : r2 = r := by
    rw [hv] at hv2
    injection hv2 with z
    injection z with z
    exact z.symm
  subst e
  subst hv
  exact h _ M1 a0 a1 a2 a3 a4 a5 a6 a7 a8 a9 b0 b1 b2 b3 b4 b5 b6
end
section
/-! THE LAW: what holds between its calls -/
noncomputable def PQE (M : mm_M) : Prop := ∃ p pz q qz : Nat, (p = 49 ∨ p = 58) ∧ (pz = 49 ∨ pz = 58) ∧ (q = 67 ∨ q = 72) ∧ (qz = 67 ∨ qz = 72) ∧ g_PQ M p pz q qz
theorem PQE_r {M M1 : mm_M} (h : M1.2.2.2 = M.2.2.2) (H : PQE M) : PQE M1 := by
  obtain ⟨p, pz, q, qz, h1, h2, h3, h4, h5⟩ := H
  refine ⟨p, pz, q, qz, h1, h2, h3, h4, ?_⟩
  unfold g_PQ at h5 ⊢
  rw [h]
  exact h5
theorem PQE_pp {M : mm_M} {p pz q qz : Nat} (h1 : p = 49 ∨ p = 58) (h2 : pz = 49 ∨ pz = 58) (h3 : q = 67 ∨ q = 72) (h4 : qz = 67 ∨ qz = 72) (h : g_PP M p pz q qz) : PQE M := by
  rcases h with h | h
  · exact ⟨p, pz, q, qz, h1, h2, h3, h4, h⟩
  · exact ⟨pz, p, q, qz, h2, h1, h3, h4, h⟩
theorem PQE_qq {M : mm_M} {p pz q qz : Nat} (h1 : p = 49 ∨ p = 58) (h2 : pz = 49 ∨ pz = 58) (h3 : q = 67 ∨ q = 72) (h4 : qz = 67 ∨ qz = 72) (h : g_QQ M p pz q qz) : PQE M := by
  rcases h with h | h
  · exact ⟨p, pz, q, qz, h1, h2, h3, h4, h⟩
  · exact ⟨p, pz, qz, q, h1, h2, h4, h3, h⟩
theorem Fx_n {M M1 : mm_M} {P : Nat → Nat → Prop} {a i : Nat} {w : Int32} (F : FRX P M M1) (hn : ¬ P a i) (h : M.2.1 a i = w) : M1.2.1 a i = w := (F.2 a i hn).1.trans h
theorem K_n {M M1 : mm_M} {a i : Nat} {w : Int32} (K : M1.2.1 = M.2.1) (h : M.2.1 a i = w) : M1.2.1 a i = w := by rw [K]; exact h
noncomputable def LI (M : mm_M) : Prop := g_G M ∧ (PI M ∧ NI M ∧ QI M ∧ PQE M) ∧ (FA M ∧ WC M ∧ NJ M ∧ PS M ∧ KQ M) ∧ (M.2.1 77 7).toInt ≤ (M.2.1 77 6).toInt ∧ (M.2.1 1 1).toInt = (M.2.1 77 1).toInt
theorem g_mk {M : mm_M} (hG : g_G M) : g_G (mm_mark M) := hG
section S5
variable {X : mm_X} {d mi pc : Nat} {ls st : List Value} {M : mm_M} {Q : Option Value → mm_M → Prop} {len a b : Nat} {ps : List Nat} {x : Int32} {A : Int} {L : Nat}
theorem s_x0 (hc : mm_code mi pc = some (.iaload, len, a, b, ps)) (hL : (X 0).1 = L) (ex : x.toInt = A) (h0 : 0 ≤ A) (h1 : A < (L : Int)) (h : ∀ v : Int32, (X 0).2 A.toNat = v → mm_T X d mi (pc + len) ls (.int v :: st) M Q) : mm_T X d mi pc ls (.int x :: .ref mm_ext :: st) M Q := tt_xal (e := 0) hc (by rw [hL]; exact i_ix ex h0 h1) rfl (h _ (by rw [show x.toNatClampNeg = A.toNat by rw [← ex]; rfl]))
theorem s_x0k {v : Int32} (hc : mm_code mi pc = some (.iaload, len, a, b, ps)) (hL : (X 0).1 = L) (ex : x.toInt = A) (h0 : 0 ≤ A) (h1 : A < (L : Int)) (hv : (X 0).2 A.toNat = v) (h : mm_T X d mi (pc + len) ls (.int v :: st) M Q) : mm_T X d mi pc ls (.int x :: .ref mm_ext :: st) M Q := tt_xal (e := 0) hc (by rw [hL]; exact i_ix ex h0 h1) (by rw [show x.toNatClampNeg = A.toNat by rw [← ex]; rfl]; exact hv) h
theorem i_nat {n : Nat} (h : n ≤ 3072) : (Int32.ofNat n).toInt = (n : Int) := by
  rw [Int32.toInt_ofNat']
  exact i_bm (by omega)
theorem s_xlen0 (hc : mm_code mi pc = some (.arraylength, len, a, b, ps)) (hL : (X 0).1 = L) (h3 : L ≤ 3072) (h : ∀ v : Int32, v.toInt = (L : Int) → mm_T X d mi (pc + len) ls (.int v :: st) M Q) : mm_T X d mi pc ls (.ref mm_ext :: st) M Q := to_xlen (e := 0) hc (by rw [hL]) (h _ (i_nat h3))
theorem s_lk {k : Nat} {f w : Int32} {rest : List Value} (hc : mm_code mi pc = some (.invokestatic k, len, 998, 4, ps)) (hd : 1 ≤ d) (h8 : Nat.ble (mm_w8 rest) 8 = true) (hG : g_G M) (hpq : PQE M) (h : ∀ (r : Int32) (M1 : mm_M), g_G M1 → M1.2.1 = M.2.1 → M1.2.2.2 = M.2.2.2 → M1.1.2.1 = M.1.2.1 + 1 → M1.1.2.2.1 = M.1.2.2.1 + 6 → mm_T X d mi (pc + 3) ls (.int r :: rest) M1 Q) : mm_T X d mi pc ls (.ref 125 :: .int w :: .int f :: .ref 0 :: rest) M Q := by
  obtain ⟨e, rfl⟩ : ∃ e, d = e + 1 := ⟨d - 1, by omega⟩
  obtain ⟨p, pz, q, qz, hp, -, -, -, h5, -, -, -⟩ := hpq
  have key : ∃ (r : Int32) (M1 : mm_M), mm_look M [.ref 0, .int f, .int w, .ref 125] = some (some (.int r), M1) ∧ g_G M1 ∧ M1.2.1 = M.2.1 ∧ M1.2.2.2 = M.2.2.2 ∧ M1.1.2.1 = M.1.2.1 + 1 ∧ M1.1.2.2.1 = M.1.2.2.1 + 6 := by
    have e9 : (mm_isObj M 0 10 && mm_isObj M 125 101 && Nat.beq (M.1.1.2.2 125) 1) = true := by
      rw [g_o hG rfl, g_o hG rfl, g_l (n := 1) hG rfl rfl]; rfl
    have hp5 : mm_isObj M p 5 = true := g_o hG (by rcases hp with rfl | rfl <;> rfl)
    simp only [mm_look, e9, h5, hp5, cond_true]
    by_cases g1 : f < 0
    · rw [if_pos g1]; exact ⟨1, _, rfl, hG, rfl, rfl, rfl, rfl⟩
    · rw [if_neg g1]
      by_cases g2 : M.2.1 p 2 ≤ f
      · rw [if_pos g2]; exact ⟨1, _, rfl, hG, rfl, rfl, rfl, rfl⟩
      · rw [if_neg g2]
        by_cases g3 : w = 0 ∨ w = 1 ∨ w = 2 ∨ w = 3
        · rw [if_pos g3]
          have hb : (M.2.1 p 2).toInt ≤ 8 := (g_b (lo := 0) (hi := 8) hG (by rcases hp with rfl | rfl <;> rfl) (by rcases hp with rfl | rfl <;> rfl)).2
          have f0 : ¬ f.toInt < 0 := fun z => g1 (Int32.lt_iff_toInt_lt.mpr z)
          have f1 : ¬ (M.2.1 p 2).toInt ≤ f.toInt := fun z => g2 (Int32.le_iff_toInt_le.mpr z)
          obtain ⟨r, hr, ho, hn⟩ : ∃ r : Nat, M.2.2.2 p (6 + w.toNatClampNeg) = some r ∧ mm_isObj M r 100 = true ∧ M.1.1.2.2 r = 8 := by
            rcases g3 with rfl | rfl | rfl | rfl
            · exact ⟨p + 2, g_r hG (by rcases hp with rfl | rfl <;> rfl), g_o hG (by rcases hp with rfl | rfl <;> rfl), g_l hG (by rcases hp with rfl | rfl <;> rfl) (by rcases hp with rfl | rfl <;> rfl)⟩
            · exact ⟨p + 3, g_r hG (by rcases hp with rfl | rfl <;> rfl), g_o hG (by rcases hp with rfl | rfl <;> rfl), g_l hG (by rcases hp with rfl | rfl <;> rfl) (by rcases hp with rfl | rfl <;> rfl)⟩
            · exact ⟨p + 4, g_r hG (by rcases hp with rfl | rfl <;> rfl), g_o hG (by rcases hp with rfl | rfl <;> rfl), g_l hG (by rcases hp with rfl | rfl <;> rfl) (by rcases hp with rfl | rfl <;> rfl)⟩
            · exact ⟨p + 5, g_r hG (by rcases hp with rfl | rfl <;> rfl), g_o hG (by rcases hp with rfl | rfl <;> rfl), g_l hG (by rcases hp with rfl | rfl <;> rfl) (by rcases hp with rfl | rfl <;> rfl)⟩
          have hlt : Nat.blt f.toNatClampNeg 8 = true := by
            have e2 : f.toNatClampNeg = f.toInt.toNat := rfl
            rw [e2]
            exact Nat.ble_eq_true_of_le (by omega)
          simp only [hr]
          rw [ho, hn, hlt]
          exact ⟨0, _, rfl, hG, rfl, rfl, rfl, rfl⟩
        · rw [if_neg g3]; exact ⟨2, _, rfl, hG, rfl, rfl, rfl, rfl⟩
  obtain ⟨r, M1, hl, k1, k2, k3, k4, k5⟩ := key
  exact tt_1 hc (tt_look (Nat.le_of_ble_eq_true h8) hl (h r M1 k1 k2 k3 k4 k5))
end S5
noncomputable def LI3 (M : mm_M) : Prop := LI M ∧ TP M ∧ W9 M
noncomputable def LI4 (M : mm_M) : Prop := LI3 M ∧ NE M ∧ (M.2.1 0 12).toInt = (M.2.1 77 28).toInt
noncomputable def LI5 (M : mm_M) : Prop := LI4 M ∧ AL M
noncomputable def LI6 (M : mm_M) : Prop := LI5 M ∧ (M.2.1 17 4).toInt = (M.2.1 77 41).toInt
noncomputable def LI7 (M : mm_M) : Prop := LI6 M ∧ W8 M
noncomputable def LI8 (M : mm_M) : Prop := LI7 M ∧ (M.2.1 6 0).toInt = (M.2.1 77 29).toInt
noncomputable def LI9 (M : mm_M) : Prop := LI8 M ∧ AN M
end
section
theorem rw_0_0 : mm_code 0 0 = some (.new 8, 3, 10, 13, [0]) := rfl
theorem rw_0_3 : mm_code 0 3 = some (.dup, 1, 0, 0, []) := rfl
theorem rw_0_4 : mm_code 0 4 = some (.invokespecial 17, 3, 109, 1, [1, 0]) := rfl
theorem rw_0_7 : mm_code 0 7 = some (.astore_n 1, 1, 0, 0, []) := rfl
theorem rw_0_8 : mm_code 0 8 = some (.new 18, 3, 11, 78, [2]) := rfl
theorem rw_0_11 : mm_code 0 11 = some (.dup, 1, 0, 0, []) := rfl
theorem rw_0_12 : mm_code 0 12 = some (.invokespecial 20, 3, 146, 1, [3, 0]) := rfl
theorem rw_0_15 : mm_code 0 15 = some (.astore_n 2, 1, 0, 0, []) := rfl
theorem rw_0_16 : mm_code 0 16 = some (.iconst 1, 1, 1, 0, []) := rfl
theorem rw_0_17 : mm_code 0 17 = some (.newarray .long, 2, 101, 0, []) := rfl
theorem rw_0_19 : mm_code 0 19 = some (.astore_n 3, 1, 0, 0, []) := rfl
theorem rw_0_20 : mm_code 0 20 = some (.iconst 0, 1, 0, 0, []) := rfl
theorem rw_0_21 : mm_code 0 21 = some (.istore 4, 2, 0, 0, []) := rfl
theorem rw_0_23 : mm_code 0 23 = some (.iload 4, 2, 0, 0, []) := rfl
theorem rw_0_25 : mm_code 0 25 = some (.aload_n 0, 1, 0, 0, []) := rfl
theorem rw_0_26 : mm_code 0 26 = some (.arraylength, 1, 0, 0, []) := rfl
theorem rw_0_27 : mm_code 0 27 = some (.bipush 6, 2, 6, 0, []) := rfl
theorem rw_0_29 : mm_code 0 29 = some (.isub, 1, 0, 0, []) := rfl
theorem rw_0_30 : mm_code 0 30 = some (.if_icmp .gt 1290, 3, 1320, 0, []) := rfl
theorem rw_0_33 : mm_code 0 33 = some (.aload_n 0, 1, 0, 0, []) := rfl
theorem rw_0_34 : mm_code 0 34 = some (.iload 4, 2, 0, 0, []) := rfl
theorem rw_0_36 : mm_code 0 36 = some (.iaload, 1, 0, 0, []) := rfl
theorem rw_0_37 : mm_code 0 37 = some (.bipush 31, 2, 31, 0, []) := rfl
theorem rw_0_39 : mm_code 0 39 = some (.iand, 1, 0, 0, []) := rfl
theorem rw_0_40 : mm_code 0 40 = some (.tableswitch 1274 0 29 #[136, 209, 234, 259, 284, 309, 346, 386, 424, 461, 474, 523, 560, 625, 662, 687, 724, 773, 798, 811, 848, 917, 930, 967, 1016, 1053, 1090, 1163, 1200, 1249], 136, 1314, 0, [176, 249, 274, 299, 324, 349, 386, 426, 464, 501, 514, 563, 600, 665, 702, 727, 764, 813, 838, 851, 888, 957, 970, 1007, 1056, 1093, 1130, 1203, 1240, 1289]) := rfl
theorem rw_0_176 : mm_code 0 176 = some (.aload_n 1, 1, 0, 0, []) := rfl
theorem rw_0_177 : mm_code 0 177 = some (.aload_n 0, 1, 0, 0, []) := rfl
theorem rw_0_178 : mm_code 0 178 = some (.iload 4, 2, 0, 0, []) := rfl
theorem rw_0_180 : mm_code 0 180 = some (.iconst 1, 1, 1, 0, []) := rfl
theorem rw_0_181 : mm_code 0 181 = some (.iadd, 1, 0, 0, []) := rfl
theorem rw_0_182 : mm_code 0 182 = some (.iaload, 1, 0, 0, []) := rfl
theorem rw_0_183 : mm_code 0 183 = some (.aload_n 0, 1, 0, 0, []) := rfl
theorem rw_0_184 : mm_code 0 184 = some (.iload 4, 2, 0, 0, []) := rfl
theorem rw_0_186 : mm_code 0 186 = some (.iconst 2, 1, 2, 0, []) := rfl
theorem rw_0_187 : mm_code 0 187 = some (.iadd, 1, 0, 0, []) := rfl
theorem rw_0_188 : mm_code 0 188 = some (.iaload, 1, 0, 0, []) := rfl
theorem rw_0_189 : mm_code 0 189 = some (.aload_n 0, 1, 0, 0, []) := rfl
theorem rw_0_190 : mm_code 0 190 = some (.iload 4, 2, 0, 0, []) := rfl
theorem rw_0_192 : mm_code 0 192 = some (.iconst 3, 1, 3, 0, []) := rfl
theorem rw_0_193 : mm_code 0 193 = some (.iadd, 1, 0, 0, []) := rfl
theorem rw_0_194 : mm_code 0 194 = some (.iaload, 1, 0, 0, []) := rfl
theorem rw_0_195 : mm_code 0 195 = some (.aload_n 0, 1, 0, 0, []) := rfl
theorem rw_0_196 : mm_code 0 196 = some (.iload 4, 2, 0, 0, []) := rfl
theorem rw_0_198 : mm_code 0 198 = some (.iconst 4, 1, 4, 0, []) := rfl
theorem rw_0_199 : mm_code 0 199 = some (.iadd, 1, 0, 0, []) := rfl
theorem rw_0_200 : mm_code 0 200 = some (.iaload, 1, 0, 0, []) := rfl
theorem rw_0_201 : mm_code 0 201 = some (.aload_n 0, 1, 0, 0, []) := rfl
theorem rw_0_202 : mm_code 0 202 = some (.iload 4, 2, 0, 0, []) := rfl
theorem rw_0_204 : mm_code 0 204 = some (.iconst 5, 1, 5, 0, []) := rfl
theorem rw_0_205 : mm_code 0 205 = some (.iadd, 1, 0, 0, []) := rfl
theorem rw_0_206 : mm_code 0 206 = some (.iaload, 1, 0, 0, []) := rfl
theorem rw_0_207 : mm_code 0 207 = some (.invokevirtual 21, 3, 110, 6, [4, 0]) := rfl
theorem rw_0_210 : mm_code 0 210 = some (.pop, 1, 0, 0, []) := rfl
theorem rw_0_211 : mm_code 0 211 = some (.aload_n 2, 1, 0, 0, []) := rfl
theorem rw_0_212 : mm_code 0 212 = some (.aload_n 0, 1, 0, 0, []) := rfl
theorem rw_0_213 : mm_code 0 213 = some (.iload 4, 2, 0, 0, []) := rfl
theorem rw_0_215 : mm_code 0 215 = some (.iconst 1, 1, 1, 0, []) := rfl
theorem rw_0_216 : mm_code 0 216 = some (.iadd, 1, 0, 0, []) := rfl
theorem rw_0_217 : mm_code 0 217 = some (.iaload, 1, 0, 0, []) := rfl
theorem rw_0_218 : mm_code 0 218 = some (.aload_n 0, 1, 0, 0, []) := rfl
theorem rw_0_219 : mm_code 0 219 = some (.iload 4, 2, 0, 0, []) := rfl
theorem rw_0_221 : mm_code 0 221 = some (.iconst 2, 1, 2, 0, []) := rfl
theorem rw_0_222 : mm_code 0 222 = some (.iadd, 1, 0, 0, []) := rfl
theorem rw_0_223 : mm_code 0 223 = some (.iaload, 1, 0, 0, []) := rfl
theorem rw_0_224 : mm_code 0 224 = some (.aload_n 0, 1, 0, 0, []) := rfl
theorem rw_0_225 : mm_code 0 225 = some (.iload 4, 2, 0, 0, []) := rfl
theorem rw_0_227 : mm_code 0 227 = some (.iconst 3, 1, 3, 0, []) := rfl
theorem rw_0_228 : mm_code 0 228 = some (.iadd, 1, 0, 0, []) := rfl
theorem rw_0_229 : mm_code 0 229 = some (.iaload, 1, 0, 0, []) := rfl
theorem rw_0_230 : mm_code 0 230 = some (.aload_n 0, 1, 0, 0, []) := rfl
theorem rw_0_231 : mm_code 0 231 = some (.iload 4, 2, 0, 0, []) := rfl
theorem rw_0_233 : mm_code 0 233 = some (.iconst 4, 1, 4, 0, []) := rfl
theorem rw_0_234 : mm_code 0 234 = some (.iadd, 1, 0, 0, []) := rfl
theorem rw_0_235 : mm_code 0 235 = some (.iaload, 1, 0, 0, []) := rfl
theorem rw_0_236 : mm_code 0 236 = some (.aload_n 0, 1, 0, 0, []) := rfl
theorem rw_0_237 : mm_code 0 237 = some (.iload 4, 2, 0, 0, []) := rfl
theorem rw_0_239 : mm_code 0 239 = some (.iconst 5, 1, 5, 0, []) := rfl
theorem rw_0_240 : mm_code 0 240 = some (.iadd, 1, 0, 0, []) := rfl
theorem rw_0_241 : mm_code 0 241 = some (.iaload, 1, 0, 0, []) := rfl
theorem rw_0_242 : mm_code 0 242 = some (.invokevirtual 25, 3, 147, 6, [5, 0]) := rfl
theorem rw_0_245 : mm_code 0 245 = some (.pop, 1, 0, 0, []) := rfl
theorem rw_0_246 : mm_code 0 246 = some (.goto 1068, 3, 1314, 0, []) := rfl
theorem rw_0_249 : mm_code 0 249 = some (.aload_n 1, 1, 0, 0, []) := rfl
theorem rw_0_250 : mm_code 0 250 = some (.aload_n 0, 1, 0, 0, []) := rfl
theorem rw_0_251 : mm_code 0 251 = some (.iload 4, 2, 0, 0, []) := rfl
theorem rw_0_253 : mm_code 0 253 = some (.iconst 1, 1, 1, 0, []) := rfl
theorem rw_0_254 : mm_code 0 254 = some (.iadd, 1, 0, 0, []) := rfl
theorem rw_0_255 : mm_code 0 255 = some (.iaload, 1, 0, 0, []) := rfl
theorem rw_0_256 : mm_code 0 256 = some (.invokevirtual 26, 3, 111, 2, [6, 0]) := rfl
theorem rw_0_259 : mm_code 0 259 = some (.pop, 1, 0, 0, []) := rfl
theorem rw_0_260 : mm_code 0 260 = some (.aload_n 2, 1, 0, 0, []) := rfl
theorem rw_0_261 : mm_code 0 261 = some (.aload_n 0, 1, 0, 0, []) := rfl
theorem rw_0_262 : mm_code 0 262 = some (.iload 4, 2, 0, 0, []) := rfl
theorem rw_0_264 : mm_code 0 264 = some (.iconst 1, 1, 1, 0, []) := rfl
theorem rw_0_265 : mm_code 0 265 = some (.iadd, 1, 0, 0, []) := rfl
theorem rw_0_266 : mm_code 0 266 = some (.iaload, 1, 0, 0, []) := rfl
theorem rw_0_267 : mm_code 0 267 = some (.invokevirtual 30, 3, 172, 2, [7, 0]) := rfl
theorem rw_0_270 : mm_code 0 270 = some (.pop, 1, 0, 0, []) := rfl
theorem rw_0_271 : mm_code 0 271 = some (.goto 1043, 3, 1314, 0, []) := rfl
theorem rw_0_274 : mm_code 0 274 = some (.aload_n 1, 1, 0, 0, []) := rfl
theorem rw_0_275 : mm_code 0 275 = some (.aload_n 0, 1, 0, 0, []) := rfl
theorem rw_0_276 : mm_code 0 276 = some (.iload 4, 2, 0, 0, []) := rfl
theorem rw_0_278 : mm_code 0 278 = some (.iconst 1, 1, 1, 0, []) := rfl
theorem rw_0_279 : mm_code 0 279 = some (.iadd, 1, 0, 0, []) := rfl
theorem rw_0_280 : mm_code 0 280 = some (.iaload, 1, 0, 0, []) := rfl
theorem rw_0_281 : mm_code 0 281 = some (.invokevirtual 31, 3, 112, 2, [8, 0]) := rfl
theorem rw_0_284 : mm_code 0 284 = some (.pop, 1, 0, 0, []) := rfl
theorem rw_0_285 : mm_code 0 285 = some (.aload_n 2, 1, 0, 0, []) := rfl
theorem rw_0_286 : mm_code 0 286 = some (.aload_n 0, 1, 0, 0, []) := rfl
theorem rw_0_287 : mm_code 0 287 = some (.iload 4, 2, 0, 0, []) := rfl
theorem rw_0_289 : mm_code 0 289 = some (.iconst 1, 1, 1, 0, []) := rfl
theorem rw_0_290 : mm_code 0 290 = some (.iadd, 1, 0, 0, []) := rfl
theorem rw_0_291 : mm_code 0 291 = some (.iaload, 1, 0, 0, []) := rfl
theorem rw_0_292 : mm_code 0 292 = some (.invokevirtual 34, 3, 218, 2, [9, 0]) := rfl
theorem rw_0_295 : mm_code 0 295 = some (.pop, 1, 0, 0, []) := rfl
theorem rw_0_296 : mm_code 0 296 = some (.goto 1018, 3, 1314, 0, []) := rfl
theorem rw_0_299 : mm_code 0 299 = some (.aload_n 1, 1, 0, 0, []) := rfl
theorem rw_0_300 : mm_code 0 300 = some (.aload_n 0, 1, 0, 0, []) := rfl
theorem rw_0_301 : mm_code 0 301 = some (.iload 4, 2, 0, 0, []) := rfl
theorem rw_0_303 : mm_code 0 303 = some (.iconst 1, 1, 1, 0, []) := rfl
theorem rw_0_304 : mm_code 0 304 = some (.iadd, 1, 0, 0, []) := rfl
theorem rw_0_305 : mm_code 0 305 = some (.iaload, 1, 0, 0, []) := rfl
theorem rw_0_306 : mm_code 0 306 = some (.invokevirtual 35, 3, 113, 2, [10, 0]) := rfl
theorem rw_0_309 : mm_code 0 309 = some (.pop, 1, 0, 0, []) := rfl
theorem rw_0_310 : mm_code 0 310 = some (.aload_n 2, 1, 0, 0, []) := rfl
theorem rw_0_311 : mm_code 0 311 = some (.aload_n 0, 1, 0, 0, []) := rfl
theorem rw_0_312 : mm_code 0 312 = some (.iload 4, 2, 0, 0, []) := rfl
theorem rw_0_314 : mm_code 0 314 = some (.iconst 1, 1, 1, 0, []) := rfl
theorem rw_0_315 : mm_code 0 315 = some (.iadd, 1, 0, 0, []) := rfl
theorem rw_0_316 : mm_code 0 316 = some (.iaload, 1, 0, 0, []) := rfl
theorem rw_0_317 : mm_code 0 317 = some (.invokevirtual 38, 3, 226, 2, [11, 0]) := rfl
theorem rw_0_320 : mm_code 0 320 = some (.pop, 1, 0, 0, []) := rfl
theorem rw_0_321 : mm_code 0 321 = some (.goto 993, 3, 1314, 0, []) := rfl
theorem rw_0_324 : mm_code 0 324 = some (.aload_n 1, 1, 0, 0, []) := rfl
theorem rw_0_325 : mm_code 0 325 = some (.aload_n 0, 1, 0, 0, []) := rfl
theorem rw_0_326 : mm_code 0 326 = some (.iload 4, 2, 0, 0, []) := rfl
theorem rw_0_328 : mm_code 0 328 = some (.iconst 1, 1, 1, 0, []) := rfl
theorem rw_0_329 : mm_code 0 329 = some (.iadd, 1, 0, 0, []) := rfl
theorem rw_0_330 : mm_code 0 330 = some (.iaload, 1, 0, 0, []) := rfl
theorem rw_0_331 : mm_code 0 331 = some (.invokevirtual 39, 3, 114, 2, [12, 0]) := rfl
theorem rw_0_334 : mm_code 0 334 = some (.pop, 1, 0, 0, []) := rfl
theorem rw_0_335 : mm_code 0 335 = some (.aload_n 2, 1, 0, 0, []) := rfl
theorem rw_0_336 : mm_code 0 336 = some (.aload_n 0, 1, 0, 0, []) := rfl
theorem rw_0_337 : mm_code 0 337 = some (.iload 4, 2, 0, 0, []) := rfl
theorem rw_0_339 : mm_code 0 339 = some (.iconst 1, 1, 1, 0, []) := rfl
theorem rw_0_340 : mm_code 0 340 = some (.iadd, 1, 0, 0, []) := rfl
theorem rw_0_341 : mm_code 0 341 = some (.iaload, 1, 0, 0, []) := rfl
theorem rw_0_342 : mm_code 0 342 = some (.invokevirtual 42, 3, 173, 2, [13, 0]) := rfl
theorem rw_0_345 : mm_code 0 345 = some (.pop, 1, 0, 0, []) := rfl
theorem rw_0_346 : mm_code 0 346 = some (.goto 968, 3, 1314, 0, []) := rfl
theorem rw_0_349 : mm_code 0 349 = some (.aload_n 1, 1, 0, 0, []) := rfl
theorem rw_0_350 : mm_code 0 350 = some (.aload_n 0, 1, 0, 0, []) := rfl
theorem rw_0_351 : mm_code 0 351 = some (.iload 4, 2, 0, 0, []) := rfl
theorem rw_0_353 : mm_code 0 353 = some (.iconst 1, 1, 1, 0, []) := rfl
theorem rw_0_354 : mm_code 0 354 = some (.iadd, 1, 0, 0, []) := rfl
theorem rw_0_355 : mm_code 0 355 = some (.iaload, 1, 0, 0, []) := rfl
theorem rw_0_356 : mm_code 0 356 = some (.aload_n 0, 1, 0, 0, []) := rfl
theorem rw_0_357 : mm_code 0 357 = some (.iload 4, 2, 0, 0, []) := rfl
theorem rw_0_359 : mm_code 0 359 = some (.iconst 2, 1, 2, 0, []) := rfl
theorem rw_0_360 : mm_code 0 360 = some (.iadd, 1, 0, 0, []) := rfl
theorem rw_0_361 : mm_code 0 361 = some (.iaload, 1, 0, 0, []) := rfl
theorem rw_0_362 : mm_code 0 362 = some (.invokevirtual 43, 3, 115, 3, [14, 0]) := rfl
theorem rw_0_365 : mm_code 0 365 = some (.pop, 1, 0, 0, []) := rfl
theorem rw_0_366 : mm_code 0 366 = some (.aload_n 2, 1, 0, 0, []) := rfl
theorem rw_0_367 : mm_code 0 367 = some (.aload_n 0, 1, 0, 0, []) := rfl
theorem rw_0_368 : mm_code 0 368 = some (.iload 4, 2, 0, 0, []) := rfl
theorem rw_0_370 : mm_code 0 370 = some (.iconst 1, 1, 1, 0, []) := rfl
theorem rw_0_371 : mm_code 0 371 = some (.iadd, 1, 0, 0, []) := rfl
theorem rw_0_372 : mm_code 0 372 = some (.iaload, 1, 0, 0, []) := rfl
theorem rw_0_373 : mm_code 0 373 = some (.aload_n 0, 1, 0, 0, []) := rfl
theorem rw_0_374 : mm_code 0 374 = some (.iload 4, 2, 0, 0, []) := rfl
theorem rw_0_376 : mm_code 0 376 = some (.iconst 2, 1, 2, 0, []) := rfl
theorem rw_0_377 : mm_code 0 377 = some (.iadd, 1, 0, 0, []) := rfl
theorem rw_0_378 : mm_code 0 378 = some (.iaload, 1, 0, 0, []) := rfl
theorem rw_0_379 : mm_code 0 379 = some (.invokevirtual 46, 3, 176, 3, [15, 0]) := rfl
theorem rw_0_382 : mm_code 0 382 = some (.pop, 1, 0, 0, []) := rfl
theorem rw_0_383 : mm_code 0 383 = some (.goto 931, 3, 1314, 0, []) := rfl
theorem rw_0_386 : mm_code 0 386 = some (.aload_n 1, 1, 0, 0, []) := rfl
theorem rw_0_387 : mm_code 0 387 = some (.aload_n 0, 1, 0, 0, []) := rfl
theorem rw_0_388 : mm_code 0 388 = some (.iload 4, 2, 0, 0, []) := rfl
theorem rw_0_390 : mm_code 0 390 = some (.iconst 1, 1, 1, 0, []) := rfl
theorem rw_0_391 : mm_code 0 391 = some (.iadd, 1, 0, 0, []) := rfl
theorem rw_0_392 : mm_code 0 392 = some (.iaload, 1, 0, 0, []) := rfl
theorem rw_0_393 : mm_code 0 393 = some (.aload_n 0, 1, 0, 0, []) := rfl
theorem rw_0_394 : mm_code 0 394 = some (.iload 4, 2, 0, 0, []) := rfl
theorem rw_0_396 : mm_code 0 396 = some (.iconst 2, 1, 2, 0, []) := rfl
theorem rw_0_397 : mm_code 0 397 = some (.iadd, 1, 0, 0, []) := rfl
theorem rw_0_398 : mm_code 0 398 = some (.iaload, 1, 0, 0, []) := rfl
theorem rw_0_399 : mm_code 0 399 = some (.aload_n 3, 1, 0, 0, []) := rfl
theorem rw_0_400 : mm_code 0 400 = some (.invokestatic 47, 3, 998, 4, [16, 0]) := rfl
theorem rw_0_403 : mm_code 0 403 = some (.istore 5, 2, 0, 0, []) := rfl
theorem rw_0_405 : mm_code 0 405 = some (.aload_n 2, 1, 0, 0, []) := rfl
theorem rw_0_406 : mm_code 0 406 = some (.aload_n 0, 1, 0, 0, []) := rfl
theorem rw_0_407 : mm_code 0 407 = some (.iload 4, 2, 0, 0, []) := rfl
theorem rw_0_409 : mm_code 0 409 = some (.iconst 1, 1, 1, 0, []) := rfl
theorem rw_0_410 : mm_code 0 410 = some (.iadd, 1, 0, 0, []) := rfl
theorem rw_0_411 : mm_code 0 411 = some (.iaload, 1, 0, 0, []) := rfl
theorem rw_0_412 : mm_code 0 412 = some (.aload_n 0, 1, 0, 0, []) := rfl
theorem rw_0_413 : mm_code 0 413 = some (.iload 4, 2, 0, 0, []) := rfl
theorem rw_0_415 : mm_code 0 415 = some (.iconst 2, 1, 2, 0, []) := rfl
theorem rw_0_416 : mm_code 0 416 = some (.iadd, 1, 0, 0, []) := rfl
theorem rw_0_417 : mm_code 0 417 = some (.iaload, 1, 0, 0, []) := rfl
theorem rw_0_418 : mm_code 0 418 = some (.invokevirtual 52, 3, 181, 3, [17, 0]) := rfl
theorem rw_0_421 : mm_code 0 421 = some (.istore 6, 2, 0, 0, []) := rfl
theorem rw_0_423 : mm_code 0 423 = some (.goto 891, 3, 1314, 0, []) := rfl
theorem rw_0_426 : mm_code 0 426 = some (.aload_n 1, 1, 0, 0, []) := rfl
theorem rw_0_427 : mm_code 0 427 = some (.aload_n 0, 1, 0, 0, []) := rfl
theorem rw_0_428 : mm_code 0 428 = some (.iload 4, 2, 0, 0, []) := rfl
theorem rw_0_430 : mm_code 0 430 = some (.iconst 1, 1, 1, 0, []) := rfl
theorem rw_0_431 : mm_code 0 431 = some (.iadd, 1, 0, 0, []) := rfl
theorem rw_0_432 : mm_code 0 432 = some (.iaload, 1, 0, 0, []) := rfl
theorem rw_0_433 : mm_code 0 433 = some (.aload_n 0, 1, 0, 0, []) := rfl
theorem rw_0_434 : mm_code 0 434 = some (.iload 4, 2, 0, 0, []) := rfl
theorem rw_0_436 : mm_code 0 436 = some (.iconst 2, 1, 2, 0, []) := rfl
theorem rw_0_437 : mm_code 0 437 = some (.iadd, 1, 0, 0, []) := rfl
theorem rw_0_438 : mm_code 0 438 = some (.iaload, 1, 0, 0, []) := rfl
theorem rw_0_439 : mm_code 0 439 = some (.invokevirtual 53, 3, 116, 3, [18, 0]) := rfl
theorem rw_0_442 : mm_code 0 442 = some (.aload_n 2, 1, 0, 0, []) := rfl
theorem rw_0_443 : mm_code 0 443 = some (.aload_n 0, 1, 0, 0, []) := rfl
theorem rw_0_444 : mm_code 0 444 = some (.iload 4, 2, 0, 0, []) := rfl
theorem rw_0_446 : mm_code 0 446 = some (.iconst 1, 1, 1, 0, []) := rfl
theorem rw_0_447 : mm_code 0 447 = some (.iadd, 1, 0, 0, []) := rfl
theorem rw_0_448 : mm_code 0 448 = some (.iaload, 1, 0, 0, []) := rfl
theorem rw_0_449 : mm_code 0 449 = some (.aload_n 0, 1, 0, 0, []) := rfl
theorem rw_0_450 : mm_code 0 450 = some (.iload 4, 2, 0, 0, []) := rfl
theorem rw_0_452 : mm_code 0 452 = some (.iconst 2, 1, 2, 0, []) := rfl
theorem rw_0_453 : mm_code 0 453 = some (.iadd, 1, 0, 0, []) := rfl
theorem rw_0_454 : mm_code 0 454 = some (.iaload, 1, 0, 0, []) := rfl
theorem rw_0_455 : mm_code 0 455 = some (.invokevirtual 57, 3, 184, 3, [19, 0]) := rfl
theorem rw_0_458 : mm_code 0 458 = some (.lcmp, 1, 0, 0, []) := rfl
theorem rw_0_459 : mm_code 0 459 = some (.ifCond .eq 855, 3, 1314, 0, []) := rfl
theorem rw_0_462 : mm_code 0 462 = some (.iconst 0, 1, 0, 0, []) := rfl
theorem rw_0_463 : mm_code 0 463 = some (.ireturn, 1, 1, 0, []) := rfl
theorem rw_0_464 : mm_code 0 464 = some (.aload_n 1, 1, 0, 0, []) := rfl
theorem rw_0_465 : mm_code 0 465 = some (.aload_n 0, 1, 0, 0, []) := rfl
theorem rw_0_466 : mm_code 0 466 = some (.iload 4, 2, 0, 0, []) := rfl
theorem rw_0_468 : mm_code 0 468 = some (.iconst 1, 1, 1, 0, []) := rfl
theorem rw_0_469 : mm_code 0 469 = some (.iadd, 1, 0, 0, []) := rfl
theorem rw_0_470 : mm_code 0 470 = some (.iaload, 1, 0, 0, []) := rfl
theorem rw_0_471 : mm_code 0 471 = some (.aload_n 0, 1, 0, 0, []) := rfl
theorem rw_0_472 : mm_code 0 472 = some (.iload 4, 2, 0, 0, []) := rfl
theorem rw_0_474 : mm_code 0 474 = some (.iconst 2, 1, 2, 0, []) := rfl
theorem rw_0_475 : mm_code 0 475 = some (.iadd, 1, 0, 0, []) := rfl
theorem rw_0_476 : mm_code 0 476 = some (.iaload, 1, 0, 0, []) := rfl
theorem rw_0_477 : mm_code 0 477 = some (.invokevirtual 58, 3, 117, 3, [20, 0]) := rfl
theorem rw_0_480 : mm_code 0 480 = some (.pop2, 1, 0, 0, []) := rfl
theorem rw_0_481 : mm_code 0 481 = some (.aload_n 2, 1, 0, 0, []) := rfl
theorem rw_0_482 : mm_code 0 482 = some (.aload_n 0, 1, 0, 0, []) := rfl
theorem rw_0_483 : mm_code 0 483 = some (.iload 4, 2, 0, 0, []) := rfl
theorem rw_0_485 : mm_code 0 485 = some (.iconst 1, 1, 1, 0, []) := rfl
theorem rw_0_486 : mm_code 0 486 = some (.iadd, 1, 0, 0, []) := rfl
theorem rw_0_487 : mm_code 0 487 = some (.iaload, 1, 0, 0, []) := rfl
theorem rw_0_488 : mm_code 0 488 = some (.aload_n 0, 1, 0, 0, []) := rfl
theorem rw_0_489 : mm_code 0 489 = some (.iload 4, 2, 0, 0, []) := rfl
theorem rw_0_491 : mm_code 0 491 = some (.iconst 2, 1, 2, 0, []) := rfl
theorem rw_0_492 : mm_code 0 492 = some (.iadd, 1, 0, 0, []) := rfl
theorem rw_0_493 : mm_code 0 493 = some (.iaload, 1, 0, 0, []) := rfl
theorem rw_0_494 : mm_code 0 494 = some (.invokevirtual 61, 3, 191, 3, [21, 0]) := rfl
theorem rw_0_497 : mm_code 0 497 = some (.pop2, 1, 0, 0, []) := rfl
theorem rw_0_498 : mm_code 0 498 = some (.goto 816, 3, 1314, 0, []) := rfl
theorem rw_0_501 : mm_code 0 501 = some (.aload_n 1, 1, 0, 0, []) := rfl
theorem rw_0_502 : mm_code 0 502 = some (.invokevirtual 62, 3, 118, 1, [22, 0]) := rfl
theorem rw_0_505 : mm_code 0 505 = some (.pop, 1, 0, 0, []) := rfl
theorem rw_0_506 : mm_code 0 506 = some (.aload_n 2, 1, 0, 0, []) := rfl
theorem rw_0_507 : mm_code 0 507 = some (.invokevirtual 66, 3, 192, 1, [23, 0]) := rfl
theorem rw_0_510 : mm_code 0 510 = some (.pop, 1, 0, 0, []) := rfl
theorem rw_0_511 : mm_code 0 511 = some (.goto 803, 3, 1314, 0, []) := rfl
theorem rw_0_514 : mm_code 0 514 = some (.aload_n 1, 1, 0, 0, []) := rfl
theorem rw_0_515 : mm_code 0 515 = some (.aload_n 0, 1, 0, 0, []) := rfl
theorem rw_0_516 : mm_code 0 516 = some (.iload 4, 2, 0, 0, []) := rfl
theorem rw_0_518 : mm_code 0 518 = some (.iconst 1, 1, 1, 0, []) := rfl
theorem rw_0_519 : mm_code 0 519 = some (.iadd, 1, 0, 0, []) := rfl
theorem rw_0_520 : mm_code 0 520 = some (.iaload, 1, 0, 0, []) := rfl
theorem rw_0_521 : mm_code 0 521 = some (.aload_n 0, 1, 0, 0, []) := rfl
theorem rw_0_522 : mm_code 0 522 = some (.iload 4, 2, 0, 0, []) := rfl
theorem rw_0_524 : mm_code 0 524 = some (.iconst 2, 1, 2, 0, []) := rfl
theorem rw_0_525 : mm_code 0 525 = some (.iadd, 1, 0, 0, []) := rfl
theorem rw_0_526 : mm_code 0 526 = some (.iaload, 1, 0, 0, []) := rfl
theorem rw_0_527 : mm_code 0 527 = some (.aload_n 0, 1, 0, 0, []) := rfl
theorem rw_0_528 : mm_code 0 528 = some (.iload 4, 2, 0, 0, []) := rfl
theorem rw_0_530 : mm_code 0 530 = some (.iconst 3, 1, 3, 0, []) := rfl
theorem rw_0_531 : mm_code 0 531 = some (.iadd, 1, 0, 0, []) := rfl
theorem rw_0_532 : mm_code 0 532 = some (.iaload, 1, 0, 0, []) := rfl
theorem rw_0_533 : mm_code 0 533 = some (.invokevirtual 67, 3, 119, 4, [24, 0]) := rfl
theorem rw_0_536 : mm_code 0 536 = some (.pop, 1, 0, 0, []) := rfl
theorem rw_0_537 : mm_code 0 537 = some (.aload_n 2, 1, 0, 0, []) := rfl
theorem rw_0_538 : mm_code 0 538 = some (.aload_n 0, 1, 0, 0, []) := rfl
theorem rw_0_539 : mm_code 0 539 = some (.iload 4, 2, 0, 0, []) := rfl
theorem rw_0_541 : mm_code 0 541 = some (.iconst 1, 1, 1, 0, []) := rfl
theorem rw_0_542 : mm_code 0 542 = some (.iadd, 1, 0, 0, []) := rfl
theorem rw_0_543 : mm_code 0 543 = some (.iaload, 1, 0, 0, []) := rfl
theorem rw_0_544 : mm_code 0 544 = some (.aload_n 0, 1, 0, 0, []) := rfl
theorem rw_0_545 : mm_code 0 545 = some (.iload 4, 2, 0, 0, []) := rfl
theorem rw_0_547 : mm_code 0 547 = some (.iconst 2, 1, 2, 0, []) := rfl
theorem rw_0_548 : mm_code 0 548 = some (.iadd, 1, 0, 0, []) := rfl
theorem rw_0_549 : mm_code 0 549 = some (.iaload, 1, 0, 0, []) := rfl
theorem rw_0_550 : mm_code 0 550 = some (.aload_n 0, 1, 0, 0, []) := rfl
theorem rw_0_551 : mm_code 0 551 = some (.iload 4, 2, 0, 0, []) := rfl
theorem rw_0_553 : mm_code 0 553 = some (.iconst 3, 1, 3, 0, []) := rfl
theorem rw_0_554 : mm_code 0 554 = some (.iadd, 1, 0, 0, []) := rfl
theorem rw_0_555 : mm_code 0 555 = some (.iaload, 1, 0, 0, []) := rfl
theorem rw_0_556 : mm_code 0 556 = some (.invokevirtual 71, 3, 193, 4, [25, 0]) := rfl
theorem rw_0_559 : mm_code 0 559 = some (.pop, 1, 0, 0, []) := rfl
theorem rw_0_560 : mm_code 0 560 = some (.goto 754, 3, 1314, 0, []) := rfl
theorem rw_0_563 : mm_code 0 563 = some (.aload_n 1, 1, 0, 0, []) := rfl
theorem rw_0_564 : mm_code 0 564 = some (.aload_n 0, 1, 0, 0, []) := rfl
theorem rw_0_565 : mm_code 0 565 = some (.iload 4, 2, 0, 0, []) := rfl
theorem rw_0_567 : mm_code 0 567 = some (.iconst 1, 1, 1, 0, []) := rfl
theorem rw_0_568 : mm_code 0 568 = some (.iadd, 1, 0, 0, []) := rfl
theorem rw_0_569 : mm_code 0 569 = some (.iaload, 1, 0, 0, []) := rfl
theorem rw_0_570 : mm_code 0 570 = some (.aload_n 0, 1, 0, 0, []) := rfl
theorem rw_0_571 : mm_code 0 571 = some (.iload 4, 2, 0, 0, []) := rfl
theorem rw_0_573 : mm_code 0 573 = some (.iconst 2, 1, 2, 0, []) := rfl
theorem rw_0_574 : mm_code 0 574 = some (.iadd, 1, 0, 0, []) := rfl
theorem rw_0_575 : mm_code 0 575 = some (.iaload, 1, 0, 0, []) := rfl
theorem rw_0_576 : mm_code 0 576 = some (.invokevirtual 72, 3, 120, 3, [26, 0]) := rfl
theorem rw_0_579 : mm_code 0 579 = some (.pop, 1, 0, 0, []) := rfl
theorem rw_0_580 : mm_code 0 580 = some (.aload_n 2, 1, 0, 0, []) := rfl
theorem rw_0_581 : mm_code 0 581 = some (.aload_n 0, 1, 0, 0, []) := rfl
theorem rw_0_582 : mm_code 0 582 = some (.iload 4, 2, 0, 0, []) := rfl
theorem rw_0_584 : mm_code 0 584 = some (.iconst 1, 1, 1, 0, []) := rfl
theorem rw_0_585 : mm_code 0 585 = some (.iadd, 1, 0, 0, []) := rfl
theorem rw_0_586 : mm_code 0 586 = some (.iaload, 1, 0, 0, []) := rfl
theorem rw_0_587 : mm_code 0 587 = some (.aload_n 0, 1, 0, 0, []) := rfl
theorem rw_0_588 : mm_code 0 588 = some (.iload 4, 2, 0, 0, []) := rfl
theorem rw_0_590 : mm_code 0 590 = some (.iconst 2, 1, 2, 0, []) := rfl
theorem rw_0_591 : mm_code 0 591 = some (.iadd, 1, 0, 0, []) := rfl
theorem rw_0_592 : mm_code 0 592 = some (.iaload, 1, 0, 0, []) := rfl
theorem rw_0_593 : mm_code 0 593 = some (.invokevirtual 75, 3, 194, 3, [27, 0]) := rfl
theorem rw_0_596 : mm_code 0 596 = some (.pop, 1, 0, 0, []) := rfl
theorem rw_0_597 : mm_code 0 597 = some (.goto 717, 3, 1314, 0, []) := rfl
theorem rw_0_600 : mm_code 0 600 = some (.aload_n 1, 1, 0, 0, []) := rfl
theorem rw_0_601 : mm_code 0 601 = some (.aload_n 0, 1, 0, 0, []) := rfl
theorem rw_0_602 : mm_code 0 602 = some (.iload 4, 2, 0, 0, []) := rfl
theorem rw_0_604 : mm_code 0 604 = some (.iconst 1, 1, 1, 0, []) := rfl
theorem rw_0_605 : mm_code 0 605 = some (.iadd, 1, 0, 0, []) := rfl
theorem rw_0_606 : mm_code 0 606 = some (.iaload, 1, 0, 0, []) := rfl
theorem rw_0_607 : mm_code 0 607 = some (.aload_n 0, 1, 0, 0, []) := rfl
theorem rw_0_608 : mm_code 0 608 = some (.iload 4, 2, 0, 0, []) := rfl
theorem rw_0_610 : mm_code 0 610 = some (.iconst 2, 1, 2, 0, []) := rfl
theorem rw_0_611 : mm_code 0 611 = some (.iadd, 1, 0, 0, []) := rfl
theorem rw_0_612 : mm_code 0 612 = some (.iaload, 1, 0, 0, []) := rfl
theorem rw_0_613 : mm_code 0 613 = some (.aload_n 0, 1, 0, 0, []) := rfl
theorem rw_0_614 : mm_code 0 614 = some (.iload 4, 2, 0, 0, []) := rfl
theorem rw_0_616 : mm_code 0 616 = some (.iconst 3, 1, 3, 0, []) := rfl
theorem rw_0_617 : mm_code 0 617 = some (.iadd, 1, 0, 0, []) := rfl
theorem rw_0_618 : mm_code 0 618 = some (.iaload, 1, 0, 0, []) := rfl
theorem rw_0_619 : mm_code 0 619 = some (.ifCond .eq 7, 3, 626, 0, []) := rfl
theorem rw_0_622 : mm_code 0 622 = some (.iconst 1, 1, 1, 0, []) := rfl
theorem rw_0_623 : mm_code 0 623 = some (.goto 4, 3, 627, 0, []) := rfl
theorem rw_0_626 : mm_code 0 626 = some (.iconst 0, 1, 0, 0, []) := rfl
theorem rw_0_627 : mm_code 0 627 = some (.invokevirtual 76, 3, 121, 4, [28, 0]) := rfl
theorem rw_0_630 : mm_code 0 630 = some (.pop, 1, 0, 0, []) := rfl
theorem rw_0_631 : mm_code 0 631 = some (.aload_n 2, 1, 0, 0, []) := rfl
theorem rw_0_632 : mm_code 0 632 = some (.aload_n 0, 1, 0, 0, []) := rfl
theorem rw_0_633 : mm_code 0 633 = some (.iload 4, 2, 0, 0, []) := rfl
theorem rw_0_635 : mm_code 0 635 = some (.iconst 1, 1, 1, 0, []) := rfl
theorem rw_0_636 : mm_code 0 636 = some (.iadd, 1, 0, 0, []) := rfl
theorem rw_0_637 : mm_code 0 637 = some (.iaload, 1, 0, 0, []) := rfl
theorem rw_0_638 : mm_code 0 638 = some (.aload_n 0, 1, 0, 0, []) := rfl
theorem rw_0_639 : mm_code 0 639 = some (.iload 4, 2, 0, 0, []) := rfl
theorem rw_0_641 : mm_code 0 641 = some (.iconst 2, 1, 2, 0, []) := rfl
theorem rw_0_642 : mm_code 0 642 = some (.iadd, 1, 0, 0, []) := rfl
theorem rw_0_643 : mm_code 0 643 = some (.iaload, 1, 0, 0, []) := rfl
theorem rw_0_644 : mm_code 0 644 = some (.aload_n 0, 1, 0, 0, []) := rfl
theorem rw_0_645 : mm_code 0 645 = some (.iload 4, 2, 0, 0, []) := rfl
theorem rw_0_647 : mm_code 0 647 = some (.iconst 3, 1, 3, 0, []) := rfl
theorem rw_0_648 : mm_code 0 648 = some (.iadd, 1, 0, 0, []) := rfl
theorem rw_0_649 : mm_code 0 649 = some (.iaload, 1, 0, 0, []) := rfl
theorem rw_0_650 : mm_code 0 650 = some (.ifCond .eq 7, 3, 657, 0, []) := rfl
theorem rw_0_653 : mm_code 0 653 = some (.iconst 1, 1, 1, 0, []) := rfl
theorem rw_0_654 : mm_code 0 654 = some (.goto 4, 3, 658, 0, []) := rfl
theorem rw_0_657 : mm_code 0 657 = some (.iconst 0, 1, 0, 0, []) := rfl
theorem rw_0_658 : mm_code 0 658 = some (.invokevirtual 80, 3, 195, 4, [29, 0]) := rfl
theorem rw_0_661 : mm_code 0 661 = some (.pop, 1, 0, 0, []) := rfl
theorem rw_0_662 : mm_code 0 662 = some (.goto 652, 3, 1314, 0, []) := rfl
theorem rw_0_665 : mm_code 0 665 = some (.aload_n 1, 1, 0, 0, []) := rfl
theorem rw_0_666 : mm_code 0 666 = some (.aload_n 0, 1, 0, 0, []) := rfl
theorem rw_0_667 : mm_code 0 667 = some (.iload 4, 2, 0, 0, []) := rfl
theorem rw_0_669 : mm_code 0 669 = some (.iconst 1, 1, 1, 0, []) := rfl
theorem rw_0_670 : mm_code 0 670 = some (.iadd, 1, 0, 0, []) := rfl
theorem rw_0_671 : mm_code 0 671 = some (.iaload, 1, 0, 0, []) := rfl
theorem rw_0_672 : mm_code 0 672 = some (.aload_n 0, 1, 0, 0, []) := rfl
theorem rw_0_673 : mm_code 0 673 = some (.iload 4, 2, 0, 0, []) := rfl
theorem rw_0_675 : mm_code 0 675 = some (.iconst 2, 1, 2, 0, []) := rfl
theorem rw_0_676 : mm_code 0 676 = some (.iadd, 1, 0, 0, []) := rfl
theorem rw_0_677 : mm_code 0 677 = some (.iaload, 1, 0, 0, []) := rfl
theorem rw_0_678 : mm_code 0 678 = some (.invokevirtual 81, 3, 122, 3, [30, 0]) := rfl
theorem rw_0_681 : mm_code 0 681 = some (.pop, 1, 0, 0, []) := rfl
theorem rw_0_682 : mm_code 0 682 = some (.aload_n 2, 1, 0, 0, []) := rfl
theorem rw_0_683 : mm_code 0 683 = some (.aload_n 0, 1, 0, 0, []) := rfl
theorem rw_0_684 : mm_code 0 684 = some (.iload 4, 2, 0, 0, []) := rfl
theorem rw_0_686 : mm_code 0 686 = some (.iconst 1, 1, 1, 0, []) := rfl
theorem rw_0_687 : mm_code 0 687 = some (.iadd, 1, 0, 0, []) := rfl
theorem rw_0_688 : mm_code 0 688 = some (.iaload, 1, 0, 0, []) := rfl
theorem rw_0_689 : mm_code 0 689 = some (.aload_n 0, 1, 0, 0, []) := rfl
theorem rw_0_690 : mm_code 0 690 = some (.iload 4, 2, 0, 0, []) := rfl
theorem rw_0_692 : mm_code 0 692 = some (.iconst 2, 1, 2, 0, []) := rfl
theorem rw_0_693 : mm_code 0 693 = some (.iadd, 1, 0, 0, []) := rfl
theorem rw_0_694 : mm_code 0 694 = some (.iaload, 1, 0, 0, []) := rfl
theorem rw_0_695 : mm_code 0 695 = some (.invokevirtual 84, 3, 197, 3, [31, 0]) := rfl
theorem rw_0_698 : mm_code 0 698 = some (.pop, 1, 0, 0, []) := rfl
theorem rw_0_699 : mm_code 0 699 = some (.goto 615, 3, 1314, 0, []) := rfl
theorem rw_0_702 : mm_code 0 702 = some (.aload_n 1, 1, 0, 0, []) := rfl
theorem rw_0_703 : mm_code 0 703 = some (.aload_n 0, 1, 0, 0, []) := rfl
theorem rw_0_704 : mm_code 0 704 = some (.iload 4, 2, 0, 0, []) := rfl
theorem rw_0_706 : mm_code 0 706 = some (.iconst 1, 1, 1, 0, []) := rfl
theorem rw_0_707 : mm_code 0 707 = some (.iadd, 1, 0, 0, []) := rfl
theorem rw_0_708 : mm_code 0 708 = some (.iaload, 1, 0, 0, []) := rfl
theorem rw_0_709 : mm_code 0 709 = some (.invokevirtual 85, 3, 123, 2, [32, 0]) := rfl
theorem rw_0_712 : mm_code 0 712 = some (.pop, 1, 0, 0, []) := rfl
theorem rw_0_713 : mm_code 0 713 = some (.aload_n 2, 1, 0, 0, []) := rfl
theorem rw_0_714 : mm_code 0 714 = some (.aload_n 0, 1, 0, 0, []) := rfl
theorem rw_0_715 : mm_code 0 715 = some (.iload 4, 2, 0, 0, []) := rfl
theorem rw_0_717 : mm_code 0 717 = some (.iconst 1, 1, 1, 0, []) := rfl
theorem rw_0_718 : mm_code 0 718 = some (.iadd, 1, 0, 0, []) := rfl
theorem rw_0_719 : mm_code 0 719 = some (.iaload, 1, 0, 0, []) := rfl
theorem rw_0_720 : mm_code 0 720 = some (.invokevirtual 88, 3, 198, 2, [33, 0]) := rfl
theorem rw_0_723 : mm_code 0 723 = some (.pop, 1, 0, 0, []) := rfl
theorem rw_0_724 : mm_code 0 724 = some (.goto 590, 3, 1314, 0, []) := rfl
theorem rw_0_727 : mm_code 0 727 = some (.aload_n 1, 1, 0, 0, []) := rfl
theorem rw_0_728 : mm_code 0 728 = some (.aload_n 0, 1, 0, 0, []) := rfl
theorem rw_0_729 : mm_code 0 729 = some (.iload 4, 2, 0, 0, []) := rfl
theorem rw_0_731 : mm_code 0 731 = some (.iconst 1, 1, 1, 0, []) := rfl
theorem rw_0_732 : mm_code 0 732 = some (.iadd, 1, 0, 0, []) := rfl
theorem rw_0_733 : mm_code 0 733 = some (.iaload, 1, 0, 0, []) := rfl
theorem rw_0_734 : mm_code 0 734 = some (.aload_n 0, 1, 0, 0, []) := rfl
theorem rw_0_735 : mm_code 0 735 = some (.iload 4, 2, 0, 0, []) := rfl
theorem rw_0_737 : mm_code 0 737 = some (.iconst 2, 1, 2, 0, []) := rfl
theorem rw_0_738 : mm_code 0 738 = some (.iadd, 1, 0, 0, []) := rfl
theorem rw_0_739 : mm_code 0 739 = some (.iaload, 1, 0, 0, []) := rfl
theorem rw_0_740 : mm_code 0 740 = some (.invokevirtual 89, 3, 124, 3, [34, 0]) := rfl
theorem rw_0_743 : mm_code 0 743 = some (.pop2, 1, 0, 0, []) := rfl
theorem rw_0_744 : mm_code 0 744 = some (.aload_n 2, 1, 0, 0, []) := rfl
theorem rw_0_745 : mm_code 0 745 = some (.aload_n 0, 1, 0, 0, []) := rfl
theorem rw_0_746 : mm_code 0 746 = some (.iload 4, 2, 0, 0, []) := rfl
theorem rw_0_748 : mm_code 0 748 = some (.iconst 1, 1, 1, 0, []) := rfl
theorem rw_0_749 : mm_code 0 749 = some (.iadd, 1, 0, 0, []) := rfl
theorem rw_0_750 : mm_code 0 750 = some (.iaload, 1, 0, 0, []) := rfl
theorem rw_0_751 : mm_code 0 751 = some (.aload_n 0, 1, 0, 0, []) := rfl
theorem rw_0_752 : mm_code 0 752 = some (.iload 4, 2, 0, 0, []) := rfl
theorem rw_0_754 : mm_code 0 754 = some (.iconst 2, 1, 2, 0, []) := rfl
theorem rw_0_755 : mm_code 0 755 = some (.iadd, 1, 0, 0, []) := rfl
theorem rw_0_756 : mm_code 0 756 = some (.iaload, 1, 0, 0, []) := rfl
theorem rw_0_757 : mm_code 0 757 = some (.invokevirtual 92, 3, 199, 3, [35, 0]) := rfl
theorem rw_0_760 : mm_code 0 760 = some (.pop2, 1, 0, 0, []) := rfl
theorem rw_0_761 : mm_code 0 761 = some (.goto 553, 3, 1314, 0, []) := rfl
theorem rw_0_764 : mm_code 0 764 = some (.aload_n 1, 1, 0, 0, []) := rfl
theorem rw_0_765 : mm_code 0 765 = some (.aload_n 0, 1, 0, 0, []) := rfl
theorem rw_0_766 : mm_code 0 766 = some (.iload 4, 2, 0, 0, []) := rfl
theorem rw_0_768 : mm_code 0 768 = some (.iconst 1, 1, 1, 0, []) := rfl
theorem rw_0_769 : mm_code 0 769 = some (.iadd, 1, 0, 0, []) := rfl
theorem rw_0_770 : mm_code 0 770 = some (.iaload, 1, 0, 0, []) := rfl
theorem rw_0_771 : mm_code 0 771 = some (.aload_n 0, 1, 0, 0, []) := rfl
theorem rw_0_772 : mm_code 0 772 = some (.iload 4, 2, 0, 0, []) := rfl
theorem rw_0_774 : mm_code 0 774 = some (.iconst 2, 1, 2, 0, []) := rfl
theorem rw_0_775 : mm_code 0 775 = some (.iadd, 1, 0, 0, []) := rfl
theorem rw_0_776 : mm_code 0 776 = some (.iaload, 1, 0, 0, []) := rfl
theorem rw_0_777 : mm_code 0 777 = some (.aload_n 0, 1, 0, 0, []) := rfl
theorem rw_0_778 : mm_code 0 778 = some (.iload 4, 2, 0, 0, []) := rfl
theorem rw_0_780 : mm_code 0 780 = some (.iconst 3, 1, 3, 0, []) := rfl
theorem rw_0_781 : mm_code 0 781 = some (.iadd, 1, 0, 0, []) := rfl
theorem rw_0_782 : mm_code 0 782 = some (.iaload, 1, 0, 0, []) := rfl
theorem rw_0_783 : mm_code 0 783 = some (.invokevirtual 93, 3, 125, 4, [36, 0]) := rfl
theorem rw_0_786 : mm_code 0 786 = some (.pop, 1, 0, 0, []) := rfl
theorem rw_0_787 : mm_code 0 787 = some (.aload_n 2, 1, 0, 0, []) := rfl
theorem rw_0_788 : mm_code 0 788 = some (.aload_n 0, 1, 0, 0, []) := rfl
theorem rw_0_789 : mm_code 0 789 = some (.iload 4, 2, 0, 0, []) := rfl
theorem rw_0_791 : mm_code 0 791 = some (.iconst 1, 1, 1, 0, []) := rfl
theorem rw_0_792 : mm_code 0 792 = some (.iadd, 1, 0, 0, []) := rfl
theorem rw_0_793 : mm_code 0 793 = some (.iaload, 1, 0, 0, []) := rfl
theorem rw_0_794 : mm_code 0 794 = some (.aload_n 0, 1, 0, 0, []) := rfl
theorem rw_0_795 : mm_code 0 795 = some (.iload 4, 2, 0, 0, []) := rfl
theorem rw_0_797 : mm_code 0 797 = some (.iconst 2, 1, 2, 0, []) := rfl
theorem rw_0_798 : mm_code 0 798 = some (.iadd, 1, 0, 0, []) := rfl
theorem rw_0_799 : mm_code 0 799 = some (.iaload, 1, 0, 0, []) := rfl
theorem rw_0_800 : mm_code 0 800 = some (.aload_n 0, 1, 0, 0, []) := rfl
theorem rw_0_801 : mm_code 0 801 = some (.iload 4, 2, 0, 0, []) := rfl
theorem rw_0_803 : mm_code 0 803 = some (.iconst 3, 1, 3, 0, []) := rfl
theorem rw_0_804 : mm_code 0 804 = some (.iadd, 1, 0, 0, []) := rfl
theorem rw_0_805 : mm_code 0 805 = some (.iaload, 1, 0, 0, []) := rfl
theorem rw_0_806 : mm_code 0 806 = some (.invokevirtual 96, 3, 201, 4, [37, 0]) := rfl
theorem rw_0_809 : mm_code 0 809 = some (.pop, 1, 0, 0, []) := rfl
theorem rw_0_810 : mm_code 0 810 = some (.goto 504, 3, 1314, 0, []) := rfl
theorem rw_0_813 : mm_code 0 813 = some (.aload_n 1, 1, 0, 0, []) := rfl
theorem rw_0_814 : mm_code 0 814 = some (.aload_n 0, 1, 0, 0, []) := rfl
theorem rw_0_815 : mm_code 0 815 = some (.iload 4, 2, 0, 0, []) := rfl
theorem rw_0_817 : mm_code 0 817 = some (.iconst 1, 1, 1, 0, []) := rfl
theorem rw_0_818 : mm_code 0 818 = some (.iadd, 1, 0, 0, []) := rfl
theorem rw_0_819 : mm_code 0 819 = some (.iaload, 1, 0, 0, []) := rfl
theorem rw_0_820 : mm_code 0 820 = some (.invokevirtual 97, 3, 126, 2, [38, 0]) := rfl
theorem rw_0_823 : mm_code 0 823 = some (.pop, 1, 0, 0, []) := rfl
theorem rw_0_824 : mm_code 0 824 = some (.aload_n 2, 1, 0, 0, []) := rfl
theorem rw_0_825 : mm_code 0 825 = some (.aload_n 0, 1, 0, 0, []) := rfl
theorem rw_0_826 : mm_code 0 826 = some (.iload 4, 2, 0, 0, []) := rfl
theorem rw_0_828 : mm_code 0 828 = some (.iconst 1, 1, 1, 0, []) := rfl
theorem rw_0_829 : mm_code 0 829 = some (.iadd, 1, 0, 0, []) := rfl
theorem rw_0_830 : mm_code 0 830 = some (.iaload, 1, 0, 0, []) := rfl
theorem rw_0_831 : mm_code 0 831 = some (.invokevirtual 101, 3, 202, 2, [39, 0]) := rfl
theorem rw_0_834 : mm_code 0 834 = some (.pop, 1, 0, 0, []) := rfl
theorem rw_0_835 : mm_code 0 835 = some (.goto 479, 3, 1314, 0, []) := rfl
theorem rw_0_838 : mm_code 0 838 = some (.aload_n 1, 1, 0, 0, []) := rfl
theorem rw_0_839 : mm_code 0 839 = some (.invokevirtual 102, 3, 127, 1, [40, 0]) := rfl
theorem rw_0_842 : mm_code 0 842 = some (.pop, 1, 0, 0, []) := rfl
theorem rw_0_843 : mm_code 0 843 = some (.aload_n 2, 1, 0, 0, []) := rfl
theorem rw_0_844 : mm_code 0 844 = some (.invokevirtual 105, 3, 203, 1, [41, 0]) := rfl
theorem rw_0_847 : mm_code 0 847 = some (.pop, 1, 0, 0, []) := rfl
theorem rw_0_848 : mm_code 0 848 = some (.goto 466, 3, 1314, 0, []) := rfl
theorem rw_0_851 : mm_code 0 851 = some (.aload_n 1, 1, 0, 0, []) := rfl
theorem rw_0_852 : mm_code 0 852 = some (.aload_n 0, 1, 0, 0, []) := rfl
theorem rw_0_853 : mm_code 0 853 = some (.iload 4, 2, 0, 0, []) := rfl
theorem rw_0_855 : mm_code 0 855 = some (.iconst 1, 1, 1, 0, []) := rfl
theorem rw_0_856 : mm_code 0 856 = some (.iadd, 1, 0, 0, []) := rfl
theorem rw_0_857 : mm_code 0 857 = some (.iaload, 1, 0, 0, []) := rfl
theorem rw_0_858 : mm_code 0 858 = some (.aload_n 0, 1, 0, 0, []) := rfl
theorem rw_0_859 : mm_code 0 859 = some (.iload 4, 2, 0, 0, []) := rfl
theorem rw_0_861 : mm_code 0 861 = some (.iconst 2, 1, 2, 0, []) := rfl
theorem rw_0_862 : mm_code 0 862 = some (.iadd, 1, 0, 0, []) := rfl
theorem rw_0_863 : mm_code 0 863 = some (.iaload, 1, 0, 0, []) := rfl
theorem rw_0_864 : mm_code 0 864 = some (.invokevirtual 106, 3, 128, 3, [42, 0]) := rfl
theorem rw_0_867 : mm_code 0 867 = some (.pop, 1, 0, 0, []) := rfl
theorem rw_0_868 : mm_code 0 868 = some (.aload_n 2, 1, 0, 0, []) := rfl
theorem rw_0_869 : mm_code 0 869 = some (.aload_n 0, 1, 0, 0, []) := rfl
theorem rw_0_870 : mm_code 0 870 = some (.iload 4, 2, 0, 0, []) := rfl
theorem rw_0_872 : mm_code 0 872 = some (.iconst 1, 1, 1, 0, []) := rfl
theorem rw_0_873 : mm_code 0 873 = some (.iadd, 1, 0, 0, []) := rfl
theorem rw_0_874 : mm_code 0 874 = some (.iaload, 1, 0, 0, []) := rfl
theorem rw_0_875 : mm_code 0 875 = some (.aload_n 0, 1, 0, 0, []) := rfl
theorem rw_0_876 : mm_code 0 876 = some (.iload 4, 2, 0, 0, []) := rfl
theorem rw_0_878 : mm_code 0 878 = some (.iconst 2, 1, 2, 0, []) := rfl
theorem rw_0_879 : mm_code 0 879 = some (.iadd, 1, 0, 0, []) := rfl
theorem rw_0_880 : mm_code 0 880 = some (.iaload, 1, 0, 0, []) := rfl
theorem rw_0_881 : mm_code 0 881 = some (.invokevirtual 109, 3, 205, 3, [43, 0]) := rfl
theorem rw_0_884 : mm_code 0 884 = some (.pop, 1, 0, 0, []) := rfl
theorem rw_0_885 : mm_code 0 885 = some (.goto 429, 3, 1314, 0, []) := rfl
theorem rw_0_888 : mm_code 0 888 = some (.aload_n 1, 1, 0, 0, []) := rfl
theorem rw_0_889 : mm_code 0 889 = some (.aload_n 0, 1, 0, 0, []) := rfl
theorem rw_0_890 : mm_code 0 890 = some (.iload 4, 2, 0, 0, []) := rfl
theorem rw_0_892 : mm_code 0 892 = some (.iconst 1, 1, 1, 0, []) := rfl
theorem rw_0_893 : mm_code 0 893 = some (.iadd, 1, 0, 0, []) := rfl
theorem rw_0_894 : mm_code 0 894 = some (.iaload, 1, 0, 0, []) := rfl
theorem rw_0_895 : mm_code 0 895 = some (.aload_n 0, 1, 0, 0, []) := rfl
theorem rw_0_896 : mm_code 0 896 = some (.iload 4, 2, 0, 0, []) := rfl
theorem rw_0_898 : mm_code 0 898 = some (.iconst 2, 1, 2, 0, []) := rfl
theorem rw_0_899 : mm_code 0 899 = some (.iadd, 1, 0, 0, []) := rfl
theorem rw_0_900 : mm_code 0 900 = some (.iaload, 1, 0, 0, []) := rfl
theorem rw_0_901 : mm_code 0 901 = some (.i2l, 1, 0, 0, []) := rfl
theorem rw_0_902 : mm_code 0 902 = some (.bipush 32, 2, 32, 0, []) := rfl
theorem rw_0_904 : mm_code 0 904 = some (.lshl, 1, 0, 0, []) := rfl
theorem rw_0_905 : mm_code 0 905 = some (.aload_n 0, 1, 0, 0, []) := rfl
theorem rw_0_906 : mm_code 0 906 = some (.iload 4, 2, 0, 0, []) := rfl
theorem rw_0_908 : mm_code 0 908 = some (.iconst 3, 1, 3, 0, []) := rfl
theorem rw_0_909 : mm_code 0 909 = some (.iadd, 1, 0, 0, []) := rfl
theorem rw_0_910 : mm_code 0 910 = some (.iaload, 1, 0, 0, []) := rfl
theorem rw_0_911 : mm_code 0 911 = some (.i2l, 1, 0, 0, []) := rfl
theorem rw_0_912 : mm_code 0 912 = some (.ldc2_w 110, 3, 4294967295, 0, [44]) := rfl
theorem rw_0_915 : mm_code 0 915 = some (.land, 1, 0, 0, []) := rfl
theorem rw_0_916 : mm_code 0 916 = some (.lor, 1, 0, 0, []) := rfl
theorem rw_0_917 : mm_code 0 917 = some (.invokevirtual 112, 3, 129, 3, [45, 0]) := rfl
theorem rw_0_920 : mm_code 0 920 = some (.pop, 1, 0, 0, []) := rfl
theorem rw_0_921 : mm_code 0 921 = some (.aload_n 2, 1, 0, 0, []) := rfl
theorem rw_0_922 : mm_code 0 922 = some (.aload_n 0, 1, 0, 0, []) := rfl
theorem rw_0_923 : mm_code 0 923 = some (.iload 4, 2, 0, 0, []) := rfl
theorem rw_0_925 : mm_code 0 925 = some (.iconst 1, 1, 1, 0, []) := rfl
theorem rw_0_926 : mm_code 0 926 = some (.iadd, 1, 0, 0, []) := rfl
theorem rw_0_927 : mm_code 0 927 = some (.iaload, 1, 0, 0, []) := rfl
theorem rw_0_928 : mm_code 0 928 = some (.aload_n 0, 1, 0, 0, []) := rfl
theorem rw_0_929 : mm_code 0 929 = some (.iload 4, 2, 0, 0, []) := rfl
theorem rw_0_931 : mm_code 0 931 = some (.iconst 2, 1, 2, 0, []) := rfl
theorem rw_0_932 : mm_code 0 932 = some (.iadd, 1, 0, 0, []) := rfl
theorem rw_0_933 : mm_code 0 933 = some (.iaload, 1, 0, 0, []) := rfl
theorem rw_0_934 : mm_code 0 934 = some (.i2l, 1, 0, 0, []) := rfl
theorem rw_0_935 : mm_code 0 935 = some (.bipush 32, 2, 32, 0, []) := rfl
theorem rw_0_937 : mm_code 0 937 = some (.lshl, 1, 0, 0, []) := rfl
theorem rw_0_938 : mm_code 0 938 = some (.aload_n 0, 1, 0, 0, []) := rfl
theorem rw_0_939 : mm_code 0 939 = some (.iload 4, 2, 0, 0, []) := rfl
theorem rw_0_941 : mm_code 0 941 = some (.iconst 3, 1, 3, 0, []) := rfl
theorem rw_0_942 : mm_code 0 942 = some (.iadd, 1, 0, 0, []) := rfl
theorem rw_0_943 : mm_code 0 943 = some (.iaload, 1, 0, 0, []) := rfl
theorem rw_0_944 : mm_code 0 944 = some (.i2l, 1, 0, 0, []) := rfl
theorem rw_0_945 : mm_code 0 945 = some (.ldc2_w 110, 3, 4294967295, 0, [44]) := rfl
theorem rw_0_948 : mm_code 0 948 = some (.land, 1, 0, 0, []) := rfl
theorem rw_0_949 : mm_code 0 949 = some (.lor, 1, 0, 0, []) := rfl
theorem rw_0_950 : mm_code 0 950 = some (.invokevirtual 116, 3, 207, 3, [46, 0]) := rfl
theorem rw_0_953 : mm_code 0 953 = some (.pop, 1, 0, 0, []) := rfl
theorem rw_0_954 : mm_code 0 954 = some (.goto 360, 3, 1314, 0, []) := rfl
theorem rw_0_957 : mm_code 0 957 = some (.aload_n 1, 1, 0, 0, []) := rfl
theorem rw_0_958 : mm_code 0 958 = some (.invokevirtual 117, 3, 130, 1, [47, 0]) := rfl
theorem rw_0_961 : mm_code 0 961 = some (.pop, 1, 0, 0, []) := rfl
theorem rw_0_962 : mm_code 0 962 = some (.aload_n 2, 1, 0, 0, []) := rfl
theorem rw_0_963 : mm_code 0 963 = some (.invokevirtual 120, 3, 208, 1, [48, 0]) := rfl
theorem rw_0_966 : mm_code 0 966 = some (.pop, 1, 0, 0, []) := rfl
theorem rw_0_967 : mm_code 0 967 = some (.goto 347, 3, 1314, 0, []) := rfl
theorem rw_0_970 : mm_code 0 970 = some (.aload_n 1, 1, 0, 0, []) := rfl
theorem rw_0_971 : mm_code 0 971 = some (.aload_n 0, 1, 0, 0, []) := rfl
theorem rw_0_972 : mm_code 0 972 = some (.iload 4, 2, 0, 0, []) := rfl
theorem rw_0_974 : mm_code 0 974 = some (.iconst 1, 1, 1, 0, []) := rfl
theorem rw_0_975 : mm_code 0 975 = some (.iadd, 1, 0, 0, []) := rfl
theorem rw_0_976 : mm_code 0 976 = some (.iaload, 1, 0, 0, []) := rfl
theorem rw_0_977 : mm_code 0 977 = some (.aload_n 0, 1, 0, 0, []) := rfl
theorem rw_0_978 : mm_code 0 978 = some (.iload 4, 2, 0, 0, []) := rfl
theorem rw_0_980 : mm_code 0 980 = some (.iconst 2, 1, 2, 0, []) := rfl
theorem rw_0_981 : mm_code 0 981 = some (.iadd, 1, 0, 0, []) := rfl
theorem rw_0_982 : mm_code 0 982 = some (.iaload, 1, 0, 0, []) := rfl
theorem rw_0_983 : mm_code 0 983 = some (.invokevirtual 121, 3, 131, 3, [49, 0]) := rfl
theorem rw_0_986 : mm_code 0 986 = some (.pop, 1, 0, 0, []) := rfl
theorem rw_0_987 : mm_code 0 987 = some (.aload_n 2, 1, 0, 0, []) := rfl
theorem rw_0_988 : mm_code 0 988 = some (.aload_n 0, 1, 0, 0, []) := rfl
theorem rw_0_989 : mm_code 0 989 = some (.iload 4, 2, 0, 0, []) := rfl
theorem rw_0_991 : mm_code 0 991 = some (.iconst 1, 1, 1, 0, []) := rfl
theorem rw_0_992 : mm_code 0 992 = some (.iadd, 1, 0, 0, []) := rfl
theorem rw_0_993 : mm_code 0 993 = some (.iaload, 1, 0, 0, []) := rfl
theorem rw_0_994 : mm_code 0 994 = some (.aload_n 0, 1, 0, 0, []) := rfl
theorem rw_0_995 : mm_code 0 995 = some (.iload 4, 2, 0, 0, []) := rfl
theorem rw_0_997 : mm_code 0 997 = some (.iconst 2, 1, 2, 0, []) := rfl
theorem rw_0_998 : mm_code 0 998 = some (.iadd, 1, 0, 0, []) := rfl
theorem rw_0_999 : mm_code 0 999 = some (.iaload, 1, 0, 0, []) := rfl
theorem rw_0_1000 : mm_code 0 1000 = some (.invokevirtual 124, 3, 228, 3, [50, 0]) := rfl
theorem rw_0_1003 : mm_code 0 1003 = some (.pop, 1, 0, 0, []) := rfl
theorem rw_0_1004 : mm_code 0 1004 = some (.goto 310, 3, 1314, 0, []) := rfl
theorem rw_0_1007 : mm_code 0 1007 = some (.aload_n 1, 1, 0, 0, []) := rfl
theorem rw_0_1008 : mm_code 0 1008 = some (.aload_n 0, 1, 0, 0, []) := rfl
theorem rw_0_1009 : mm_code 0 1009 = some (.iload 4, 2, 0, 0, []) := rfl
theorem rw_0_1011 : mm_code 0 1011 = some (.iconst 1, 1, 1, 0, []) := rfl
theorem rw_0_1012 : mm_code 0 1012 = some (.iadd, 1, 0, 0, []) := rfl
theorem rw_0_1013 : mm_code 0 1013 = some (.iaload, 1, 0, 0, []) := rfl
theorem rw_0_1014 : mm_code 0 1014 = some (.aload_n 0, 1, 0, 0, []) := rfl
theorem rw_0_1015 : mm_code 0 1015 = some (.iload 4, 2, 0, 0, []) := rfl
theorem rw_0_1017 : mm_code 0 1017 = some (.iconst 2, 1, 2, 0, []) := rfl
theorem rw_0_1018 : mm_code 0 1018 = some (.iadd, 1, 0, 0, []) := rfl
theorem rw_0_1019 : mm_code 0 1019 = some (.iaload, 1, 0, 0, []) := rfl
theorem rw_0_1020 : mm_code 0 1020 = some (.aload_n 0, 1, 0, 0, []) := rfl
theorem rw_0_1021 : mm_code 0 1021 = some (.iload 4, 2, 0, 0, []) := rfl
theorem rw_0_1023 : mm_code 0 1023 = some (.iconst 3, 1, 3, 0, []) := rfl
theorem rw_0_1024 : mm_code 0 1024 = some (.iadd, 1, 0, 0, []) := rfl
theorem rw_0_1025 : mm_code 0 1025 = some (.iaload, 1, 0, 0, []) := rfl
theorem rw_0_1026 : mm_code 0 1026 = some (.invokevirtual 125, 3, 132, 4, [51, 0]) := rfl
theorem rw_0_1029 : mm_code 0 1029 = some (.pop2, 1, 0, 0, []) := rfl
theorem rw_0_1030 : mm_code 0 1030 = some (.aload_n 2, 1, 0, 0, []) := rfl
theorem rw_0_1031 : mm_code 0 1031 = some (.aload_n 0, 1, 0, 0, []) := rfl
theorem rw_0_1032 : mm_code 0 1032 = some (.iload 4, 2, 0, 0, []) := rfl
theorem rw_0_1034 : mm_code 0 1034 = some (.iconst 1, 1, 1, 0, []) := rfl
theorem rw_0_1035 : mm_code 0 1035 = some (.iadd, 1, 0, 0, []) := rfl
theorem rw_0_1036 : mm_code 0 1036 = some (.iaload, 1, 0, 0, []) := rfl
theorem rw_0_1037 : mm_code 0 1037 = some (.aload_n 0, 1, 0, 0, []) := rfl
theorem rw_0_1038 : mm_code 0 1038 = some (.iload 4, 2, 0, 0, []) := rfl
theorem rw_0_1040 : mm_code 0 1040 = some (.iconst 2, 1, 2, 0, []) := rfl
theorem rw_0_1041 : mm_code 0 1041 = some (.iadd, 1, 0, 0, []) := rfl
theorem rw_0_1042 : mm_code 0 1042 = some (.iaload, 1, 0, 0, []) := rfl
theorem rw_0_1043 : mm_code 0 1043 = some (.aload_n 0, 1, 0, 0, []) := rfl
theorem rw_0_1044 : mm_code 0 1044 = some (.iload 4, 2, 0, 0, []) := rfl
theorem rw_0_1046 : mm_code 0 1046 = some (.iconst 3, 1, 3, 0, []) := rfl
theorem rw_0_1047 : mm_code 0 1047 = some (.iadd, 1, 0, 0, []) := rfl
theorem rw_0_1048 : mm_code 0 1048 = some (.iaload, 1, 0, 0, []) := rfl
theorem rw_0_1049 : mm_code 0 1049 = some (.invokevirtual 129, 3, 232, 4, [52, 0]) := rfl
theorem rw_0_1052 : mm_code 0 1052 = some (.pop2, 1, 0, 0, []) := rfl
theorem rw_0_1053 : mm_code 0 1053 = some (.goto 261, 3, 1314, 0, []) := rfl
theorem rw_0_1056 : mm_code 0 1056 = some (.aload_n 1, 1, 0, 0, []) := rfl
theorem rw_0_1057 : mm_code 0 1057 = some (.aload_n 0, 1, 0, 0, []) := rfl
theorem rw_0_1058 : mm_code 0 1058 = some (.iload 4, 2, 0, 0, []) := rfl
theorem rw_0_1060 : mm_code 0 1060 = some (.iconst 1, 1, 1, 0, []) := rfl
theorem rw_0_1061 : mm_code 0 1061 = some (.iadd, 1, 0, 0, []) := rfl
theorem rw_0_1062 : mm_code 0 1062 = some (.iaload, 1, 0, 0, []) := rfl
theorem rw_0_1063 : mm_code 0 1063 = some (.aload_n 0, 1, 0, 0, []) := rfl
theorem rw_0_1064 : mm_code 0 1064 = some (.iload 4, 2, 0, 0, []) := rfl
theorem rw_0_1066 : mm_code 0 1066 = some (.iconst 2, 1, 2, 0, []) := rfl
theorem rw_0_1067 : mm_code 0 1067 = some (.iadd, 1, 0, 0, []) := rfl
theorem rw_0_1068 : mm_code 0 1068 = some (.iaload, 1, 0, 0, []) := rfl
theorem rw_0_1069 : mm_code 0 1069 = some (.invokevirtual 130, 3, 133, 3, [53, 0]) := rfl
theorem rw_0_1072 : mm_code 0 1072 = some (.pop, 1, 0, 0, []) := rfl
theorem rw_0_1073 : mm_code 0 1073 = some (.aload_n 2, 1, 0, 0, []) := rfl
theorem rw_0_1074 : mm_code 0 1074 = some (.aload_n 0, 1, 0, 0, []) := rfl
theorem rw_0_1075 : mm_code 0 1075 = some (.iload 4, 2, 0, 0, []) := rfl
theorem rw_0_1077 : mm_code 0 1077 = some (.iconst 1, 1, 1, 0, []) := rfl
theorem rw_0_1078 : mm_code 0 1078 = some (.iadd, 1, 0, 0, []) := rfl
theorem rw_0_1079 : mm_code 0 1079 = some (.iaload, 1, 0, 0, []) := rfl
theorem rw_0_1080 : mm_code 0 1080 = some (.aload_n 0, 1, 0, 0, []) := rfl
theorem rw_0_1081 : mm_code 0 1081 = some (.iload 4, 2, 0, 0, []) := rfl
theorem rw_0_1083 : mm_code 0 1083 = some (.iconst 2, 1, 2, 0, []) := rfl
theorem rw_0_1084 : mm_code 0 1084 = some (.iadd, 1, 0, 0, []) := rfl
theorem rw_0_1085 : mm_code 0 1085 = some (.iaload, 1, 0, 0, []) := rfl
theorem rw_0_1086 : mm_code 0 1086 = some (.invokevirtual 133, 3, 234, 3, [54, 0]) := rfl
theorem rw_0_1089 : mm_code 0 1089 = some (.pop, 1, 0, 0, []) := rfl
theorem rw_0_1090 : mm_code 0 1090 = some (.goto 224, 3, 1314, 0, []) := rfl
theorem rw_0_1093 : mm_code 0 1093 = some (.aload_n 1, 1, 0, 0, []) := rfl
theorem rw_0_1094 : mm_code 0 1094 = some (.aload_n 0, 1, 0, 0, []) := rfl
theorem rw_0_1095 : mm_code 0 1095 = some (.iload 4, 2, 0, 0, []) := rfl
theorem rw_0_1097 : mm_code 0 1097 = some (.iconst 1, 1, 1, 0, []) := rfl
theorem rw_0_1098 : mm_code 0 1098 = some (.iadd, 1, 0, 0, []) := rfl
theorem rw_0_1099 : mm_code 0 1099 = some (.iaload, 1, 0, 0, []) := rfl
theorem rw_0_1100 : mm_code 0 1100 = some (.aload_n 0, 1, 0, 0, []) := rfl
theorem rw_0_1101 : mm_code 0 1101 = some (.iload 4, 2, 0, 0, []) := rfl
theorem rw_0_1103 : mm_code 0 1103 = some (.iconst 2, 1, 2, 0, []) := rfl
theorem rw_0_1104 : mm_code 0 1104 = some (.iadd, 1, 0, 0, []) := rfl
theorem rw_0_1105 : mm_code 0 1105 = some (.iaload, 1, 0, 0, []) := rfl
theorem rw_0_1106 : mm_code 0 1106 = some (.invokevirtual 134, 3, 134, 3, [55, 0]) := rfl
theorem rw_0_1109 : mm_code 0 1109 = some (.pop, 1, 0, 0, []) := rfl
theorem rw_0_1110 : mm_code 0 1110 = some (.aload_n 2, 1, 0, 0, []) := rfl
theorem rw_0_1111 : mm_code 0 1111 = some (.aload_n 0, 1, 0, 0, []) := rfl
theorem rw_0_1112 : mm_code 0 1112 = some (.iload 4, 2, 0, 0, []) := rfl
theorem rw_0_1114 : mm_code 0 1114 = some (.iconst 1, 1, 1, 0, []) := rfl
theorem rw_0_1115 : mm_code 0 1115 = some (.iadd, 1, 0, 0, []) := rfl
theorem rw_0_1116 : mm_code 0 1116 = some (.iaload, 1, 0, 0, []) := rfl
theorem rw_0_1117 : mm_code 0 1117 = some (.aload_n 0, 1, 0, 0, []) := rfl
theorem rw_0_1118 : mm_code 0 1118 = some (.iload 4, 2, 0, 0, []) := rfl
theorem rw_0_1120 : mm_code 0 1120 = some (.iconst 2, 1, 2, 0, []) := rfl
theorem rw_0_1121 : mm_code 0 1121 = some (.iadd, 1, 0, 0, []) := rfl
theorem rw_0_1122 : mm_code 0 1122 = some (.iaload, 1, 0, 0, []) := rfl
theorem rw_0_1123 : mm_code 0 1123 = some (.invokevirtual 137, 3, 236, 3, [56, 0]) := rfl
theorem rw_0_1126 : mm_code 0 1126 = some (.pop, 1, 0, 0, []) := rfl
theorem rw_0_1127 : mm_code 0 1127 = some (.goto 187, 3, 1314, 0, []) := rfl
theorem rw_0_1130 : mm_code 0 1130 = some (.aload_n 1, 1, 0, 0, []) := rfl
theorem rw_0_1131 : mm_code 0 1131 = some (.aload_n 0, 1, 0, 0, []) := rfl
theorem rw_0_1132 : mm_code 0 1132 = some (.iload 4, 2, 0, 0, []) := rfl
theorem rw_0_1134 : mm_code 0 1134 = some (.iconst 1, 1, 1, 0, []) := rfl
theorem rw_0_1135 : mm_code 0 1135 = some (.iadd, 1, 0, 0, []) := rfl
theorem rw_0_1136 : mm_code 0 1136 = some (.iaload, 1, 0, 0, []) := rfl
theorem rw_0_1137 : mm_code 0 1137 = some (.aload_n 0, 1, 0, 0, []) := rfl
theorem rw_0_1138 : mm_code 0 1138 = some (.iload 4, 2, 0, 0, []) := rfl
theorem rw_0_1140 : mm_code 0 1140 = some (.iconst 2, 1, 2, 0, []) := rfl
theorem rw_0_1141 : mm_code 0 1141 = some (.iadd, 1, 0, 0, []) := rfl
theorem rw_0_1142 : mm_code 0 1142 = some (.iaload, 1, 0, 0, []) := rfl
theorem rw_0_1143 : mm_code 0 1143 = some (.aload_n 0, 1, 0, 0, []) := rfl
theorem rw_0_1144 : mm_code 0 1144 = some (.iload 4, 2, 0, 0, []) := rfl
theorem rw_0_1146 : mm_code 0 1146 = some (.iconst 3, 1, 3, 0, []) := rfl
theorem rw_0_1147 : mm_code 0 1147 = some (.iadd, 1, 0, 0, []) := rfl
theorem rw_0_1148 : mm_code 0 1148 = some (.iaload, 1, 0, 0, []) := rfl
theorem rw_0_1149 : mm_code 0 1149 = some (.aload_n 0, 1, 0, 0, []) := rfl
theorem rw_0_1150 : mm_code 0 1150 = some (.iload 4, 2, 0, 0, []) := rfl
theorem rw_0_1152 : mm_code 0 1152 = some (.iconst 4, 1, 4, 0, []) := rfl
theorem rw_0_1153 : mm_code 0 1153 = some (.iadd, 1, 0, 0, []) := rfl
theorem rw_0_1154 : mm_code 0 1154 = some (.iaload, 1, 0, 0, []) := rfl
theorem rw_0_1155 : mm_code 0 1155 = some (.aload_n 0, 1, 0, 0, []) := rfl
theorem rw_0_1156 : mm_code 0 1156 = some (.iload 4, 2, 0, 0, []) := rfl
theorem rw_0_1158 : mm_code 0 1158 = some (.iconst 5, 1, 5, 0, []) := rfl
theorem rw_0_1159 : mm_code 0 1159 = some (.iadd, 1, 0, 0, []) := rfl
theorem rw_0_1160 : mm_code 0 1160 = some (.iaload, 1, 0, 0, []) := rfl
theorem rw_0_1161 : mm_code 0 1161 = some (.invokevirtual 138, 3, 135, 6, [57, 0]) := rfl
theorem rw_0_1164 : mm_code 0 1164 = some (.pop, 1, 0, 0, []) := rfl
theorem rw_0_1165 : mm_code 0 1165 = some (.aload_n 2, 1, 0, 0, []) := rfl
theorem rw_0_1166 : mm_code 0 1166 = some (.aload_n 0, 1, 0, 0, []) := rfl
theorem rw_0_1167 : mm_code 0 1167 = some (.iload 4, 2, 0, 0, []) := rfl
theorem rw_0_1169 : mm_code 0 1169 = some (.iconst 1, 1, 1, 0, []) := rfl
theorem rw_0_1170 : mm_code 0 1170 = some (.iadd, 1, 0, 0, []) := rfl
theorem rw_0_1171 : mm_code 0 1171 = some (.iaload, 1, 0, 0, []) := rfl
theorem rw_0_1172 : mm_code 0 1172 = some (.aload_n 0, 1, 0, 0, []) := rfl
theorem rw_0_1173 : mm_code 0 1173 = some (.iload 4, 2, 0, 0, []) := rfl
theorem rw_0_1175 : mm_code 0 1175 = some (.iconst 2, 1, 2, 0, []) := rfl
theorem rw_0_1176 : mm_code 0 1176 = some (.iadd, 1, 0, 0, []) := rfl
theorem rw_0_1177 : mm_code 0 1177 = some (.iaload, 1, 0, 0, []) := rfl
theorem rw_0_1178 : mm_code 0 1178 = some (.aload_n 0, 1, 0, 0, []) := rfl
theorem rw_0_1179 : mm_code 0 1179 = some (.iload 4, 2, 0, 0, []) := rfl
theorem rw_0_1181 : mm_code 0 1181 = some (.iconst 3, 1, 3, 0, []) := rfl
theorem rw_0_1182 : mm_code 0 1182 = some (.iadd, 1, 0, 0, []) := rfl
theorem rw_0_1183 : mm_code 0 1183 = some (.iaload, 1, 0, 0, []) := rfl
theorem rw_0_1184 : mm_code 0 1184 = some (.aload_n 0, 1, 0, 0, []) := rfl
theorem rw_0_1185 : mm_code 0 1185 = some (.iload 4, 2, 0, 0, []) := rfl
theorem rw_0_1187 : mm_code 0 1187 = some (.iconst 4, 1, 4, 0, []) := rfl
theorem rw_0_1188 : mm_code 0 1188 = some (.iadd, 1, 0, 0, []) := rfl
theorem rw_0_1189 : mm_code 0 1189 = some (.iaload, 1, 0, 0, []) := rfl
theorem rw_0_1190 : mm_code 0 1190 = some (.aload_n 0, 1, 0, 0, []) := rfl
theorem rw_0_1191 : mm_code 0 1191 = some (.iload 4, 2, 0, 0, []) := rfl
theorem rw_0_1193 : mm_code 0 1193 = some (.iconst 5, 1, 5, 0, []) := rfl
theorem rw_0_1194 : mm_code 0 1194 = some (.iadd, 1, 0, 0, []) := rfl
theorem rw_0_1195 : mm_code 0 1195 = some (.iaload, 1, 0, 0, []) := rfl
theorem rw_0_1196 : mm_code 0 1196 = some (.invokevirtual 141, 3, 237, 6, [58, 0]) := rfl
theorem rw_0_1199 : mm_code 0 1199 = some (.pop, 1, 0, 0, []) := rfl
theorem rw_0_1200 : mm_code 0 1200 = some (.goto 114, 3, 1314, 0, []) := rfl
theorem rw_0_1203 : mm_code 0 1203 = some (.aload_n 1, 1, 0, 0, []) := rfl
theorem rw_0_1204 : mm_code 0 1204 = some (.aload_n 0, 1, 0, 0, []) := rfl
theorem rw_0_1205 : mm_code 0 1205 = some (.iload 4, 2, 0, 0, []) := rfl
theorem rw_0_1207 : mm_code 0 1207 = some (.iconst 1, 1, 1, 0, []) := rfl
theorem rw_0_1208 : mm_code 0 1208 = some (.iadd, 1, 0, 0, []) := rfl
theorem rw_0_1209 : mm_code 0 1209 = some (.iaload, 1, 0, 0, []) := rfl
theorem rw_0_1210 : mm_code 0 1210 = some (.aload_n 0, 1, 0, 0, []) := rfl
theorem rw_0_1211 : mm_code 0 1211 = some (.iload 4, 2, 0, 0, []) := rfl
theorem rw_0_1213 : mm_code 0 1213 = some (.iconst 2, 1, 2, 0, []) := rfl
theorem rw_0_1214 : mm_code 0 1214 = some (.iadd, 1, 0, 0, []) := rfl
theorem rw_0_1215 : mm_code 0 1215 = some (.iaload, 1, 0, 0, []) := rfl
theorem rw_0_1216 : mm_code 0 1216 = some (.invokevirtual 142, 3, 136, 3, [59, 0]) := rfl
theorem rw_0_1219 : mm_code 0 1219 = some (.pop, 1, 0, 0, []) := rfl
theorem rw_0_1220 : mm_code 0 1220 = some (.aload_n 2, 1, 0, 0, []) := rfl
theorem rw_0_1221 : mm_code 0 1221 = some (.aload_n 0, 1, 0, 0, []) := rfl
theorem rw_0_1222 : mm_code 0 1222 = some (.iload 4, 2, 0, 0, []) := rfl
theorem rw_0_1224 : mm_code 0 1224 = some (.iconst 1, 1, 1, 0, []) := rfl
theorem rw_0_1225 : mm_code 0 1225 = some (.iadd, 1, 0, 0, []) := rfl
theorem rw_0_1226 : mm_code 0 1226 = some (.iaload, 1, 0, 0, []) := rfl
theorem rw_0_1227 : mm_code 0 1227 = some (.aload_n 0, 1, 0, 0, []) := rfl
theorem rw_0_1228 : mm_code 0 1228 = some (.iload 4, 2, 0, 0, []) := rfl
theorem rw_0_1230 : mm_code 0 1230 = some (.iconst 2, 1, 2, 0, []) := rfl
theorem rw_0_1231 : mm_code 0 1231 = some (.iadd, 1, 0, 0, []) := rfl
theorem rw_0_1232 : mm_code 0 1232 = some (.iaload, 1, 0, 0, []) := rfl
theorem rw_0_1233 : mm_code 0 1233 = some (.invokevirtual 145, 3, 241, 3, [60, 0]) := rfl
theorem rw_0_1236 : mm_code 0 1236 = some (.pop, 1, 0, 0, []) := rfl
theorem rw_0_1237 : mm_code 0 1237 = some (.goto 77, 3, 1314, 0, []) := rfl
theorem rw_0_1240 : mm_code 0 1240 = some (.aload_n 1, 1, 0, 0, []) := rfl
theorem rw_0_1241 : mm_code 0 1241 = some (.aload_n 0, 1, 0, 0, []) := rfl
theorem rw_0_1242 : mm_code 0 1242 = some (.iload 4, 2, 0, 0, []) := rfl
theorem rw_0_1244 : mm_code 0 1244 = some (.iconst 1, 1, 1, 0, []) := rfl
theorem rw_0_1245 : mm_code 0 1245 = some (.iadd, 1, 0, 0, []) := rfl
theorem rw_0_1246 : mm_code 0 1246 = some (.iaload, 1, 0, 0, []) := rfl
theorem rw_0_1247 : mm_code 0 1247 = some (.aload_n 0, 1, 0, 0, []) := rfl
theorem rw_0_1248 : mm_code 0 1248 = some (.iload 4, 2, 0, 0, []) := rfl
theorem rw_0_1250 : mm_code 0 1250 = some (.iconst 2, 1, 2, 0, []) := rfl
theorem rw_0_1251 : mm_code 0 1251 = some (.iadd, 1, 0, 0, []) := rfl
theorem rw_0_1252 : mm_code 0 1252 = some (.iaload, 1, 0, 0, []) := rfl
theorem rw_0_1253 : mm_code 0 1253 = some (.aload_n 0, 1, 0, 0, []) := rfl
theorem rw_0_1254 : mm_code 0 1254 = some (.iload 4, 2, 0, 0, []) := rfl
theorem rw_0_1256 : mm_code 0 1256 = some (.iconst 3, 1, 3, 0, []) := rfl
theorem rw_0_1257 : mm_code 0 1257 = some (.iadd, 1, 0, 0, []) := rfl
theorem rw_0_1258 : mm_code 0 1258 = some (.iaload, 1, 0, 0, []) := rfl
theorem rw_0_1259 : mm_code 0 1259 = some (.invokevirtual 146, 3, 137, 4, [61, 0]) := rfl
theorem rw_0_1262 : mm_code 0 1262 = some (.pop, 1, 0, 0, []) := rfl
theorem rw_0_1263 : mm_code 0 1263 = some (.aload_n 2, 1, 0, 0, []) := rfl
theorem rw_0_1264 : mm_code 0 1264 = some (.aload_n 0, 1, 0, 0, []) := rfl
theorem rw_0_1265 : mm_code 0 1265 = some (.iload 4, 2, 0, 0, []) := rfl
theorem rw_0_1267 : mm_code 0 1267 = some (.iconst 1, 1, 1, 0, []) := rfl
theorem rw_0_1268 : mm_code 0 1268 = some (.iadd, 1, 0, 0, []) := rfl
theorem rw_0_1269 : mm_code 0 1269 = some (.iaload, 1, 0, 0, []) := rfl
theorem rw_0_1270 : mm_code 0 1270 = some (.aload_n 0, 1, 0, 0, []) := rfl
theorem rw_0_1271 : mm_code 0 1271 = some (.iload 4, 2, 0, 0, []) := rfl
theorem rw_0_1273 : mm_code 0 1273 = some (.iconst 2, 1, 2, 0, []) := rfl
theorem rw_0_1274 : mm_code 0 1274 = some (.iadd, 1, 0, 0, []) := rfl
theorem rw_0_1275 : mm_code 0 1275 = some (.iaload, 1, 0, 0, []) := rfl
theorem rw_0_1276 : mm_code 0 1276 = some (.aload_n 0, 1, 0, 0, []) := rfl
theorem rw_0_1277 : mm_code 0 1277 = some (.iload 4, 2, 0, 0, []) := rfl
theorem rw_0_1279 : mm_code 0 1279 = some (.iconst 3, 1, 3, 0, []) := rfl
theorem rw_0_1280 : mm_code 0 1280 = some (.iadd, 1, 0, 0, []) := rfl
theorem rw_0_1281 : mm_code 0 1281 = some (.iaload, 1, 0, 0, []) := rfl
theorem rw_0_1282 : mm_code 0 1282 = some (.invokevirtual 149, 3, 244, 4, [62, 0]) := rfl
theorem rw_0_1285 : mm_code 0 1285 = some (.pop, 1, 0, 0, []) := rfl
theorem rw_0_1286 : mm_code 0 1286 = some (.goto 28, 3, 1314, 0, []) := rfl
theorem rw_0_1289 : mm_code 0 1289 = some (.aload_n 1, 1, 0, 0, []) := rfl
theorem rw_0_1290 : mm_code 0 1290 = some (.aload_n 0, 1, 0, 0, []) := rfl
theorem rw_0_1291 : mm_code 0 1291 = some (.iload 4, 2, 0, 0, []) := rfl
theorem rw_0_1293 : mm_code 0 1293 = some (.iconst 1, 1, 1, 0, []) := rfl
theorem rw_0_1294 : mm_code 0 1294 = some (.iadd, 1, 0, 0, []) := rfl
theorem rw_0_1295 : mm_code 0 1295 = some (.iaload, 1, 0, 0, []) := rfl
theorem rw_0_1296 : mm_code 0 1296 = some (.invokevirtual 150, 3, 138, 2, [63, 0]) := rfl
theorem rw_0_1299 : mm_code 0 1299 = some (.pop, 1, 0, 0, []) := rfl
theorem rw_0_1300 : mm_code 0 1300 = some (.aload_n 2, 1, 0, 0, []) := rfl
theorem rw_0_1301 : mm_code 0 1301 = some (.aload_n 0, 1, 0, 0, []) := rfl
theorem rw_0_1302 : mm_code 0 1302 = some (.iload 4, 2, 0, 0, []) := rfl
theorem rw_0_1304 : mm_code 0 1304 = some (.iconst 1, 1, 1, 0, []) := rfl
theorem rw_0_1305 : mm_code 0 1305 = some (.iadd, 1, 0, 0, []) := rfl
theorem rw_0_1306 : mm_code 0 1306 = some (.iaload, 1, 0, 0, []) := rfl
theorem rw_0_1307 : mm_code 0 1307 = some (.invokevirtual 153, 3, 245, 2, [64, 0]) := rfl
theorem rw_0_1310 : mm_code 0 1310 = some (.pop, 1, 0, 0, []) := rfl
theorem rw_0_1311 : mm_code 0 1311 = some (.goto 3, 3, 1314, 0, []) := rfl
theorem rw_0_1314 : mm_code 0 1314 = some (.iinc 4 6, 3, 6, 0, []) := rfl
theorem rw_0_1317 : mm_code 0 1317 = some (.goto (-1294), 3, 23, 0, []) := rfl
theorem rw_0_1320 : mm_code 0 1320 = some (.iconst 1, 1, 1, 0, []) := rfl
theorem rw_0_1321 : mm_code 0 1321 = some (.ireturn, 1, 1, 0, []) := rfl
end
section
theorem tg_363 {M M1 : mm_M} (F : FR (fun a i : Nat => a = 77 ∧ (i = 1 ∨ i = 2) ∨ a = 78) M M1) : ∀ a i : Nat, PI_r a → M1.2.1 a i = M.2.1 a i := fun a i z => F_n F (show ¬ (a = 77 ∧ (i = 1 ∨ i = 2) ∨ a = 78) by omega) rfl
theorem tg_364 {M M1 : mm_M} (F : FR (fun a i : Nat => a = 1 ∧ i = 1 ∨ a = 2) M M1) : ∀ a i : Nat, PI_r a → M1.2.1 a i = M.2.1 a i := fun a i z => F_n F (show ¬ (a = 1 ∧ i = 1 ∨ a = 2) by omega) rfl
theorem tg_365 {M M1 : mm_M} (F : FR (fun a i : Nat => a = 77 ∧ (i = 1 ∨ i = 2) ∨ a = 78) M M1) : ∀ a i : Nat, (7 ≤ a ∧ a ≤ 9) → M1.2.1 a i = M.2.1 a i := fun a i z => F_n F (show ¬ (a = 77 ∧ (i = 1 ∨ i = 2) ∨ a = 78) by omega) rfl
theorem tg_366 {M M1 : mm_M} (F : FR (fun a i : Nat => a = 1 ∧ i = 1 ∨ a = 2) M M1) : ∀ a i : Nat, (7 ≤ a ∧ a ≤ 9) → M1.2.1 a i = M.2.1 a i := fun a i z => F_n F (show ¬ (a = 1 ∧ i = 1 ∨ a = 2) by omega) rfl
theorem tg_367 {M M1 : mm_M} (F : FR (fun a i : Nat => a = 77 ∧ (i = 1 ∨ i = 2) ∨ a = 78) M M1) : ∀ a i : Nat, (a = 68 ∨ a = 69 ∨ a = 73 ∨ a = 74) → M1.2.1 a i = M.2.1 a i := fun a i z => F_n F (show ¬ (a = 77 ∧ (i = 1 ∨ i = 2) ∨ a = 78) by omega) rfl
theorem tg_368 {M M1 : mm_M} (F : FR (fun a i : Nat => a = 1 ∧ i = 1 ∨ a = 2) M M1) : ∀ a i : Nat, (a = 68 ∨ a = 69 ∨ a = 73 ∨ a = 74) → M1.2.1 a i = M.2.1 a i := fun a i z => F_n F (show ¬ (a = 1 ∧ i = 1 ∨ a = 2) by omega) rfl
theorem tg_369 {M M1 : mm_M} (F : FR (fun a i : Nat => a = 77 ∧ (i = 1 ∨ i = 2) ∨ a = 78) M M1) : ∀ a i : Nat, (81 ≤ a ∧ a ≤ 84) → M1.2.1 a i = M.2.1 a i := fun a i z => F_n F (show ¬ (a = 77 ∧ (i = 1 ∨ i = 2) ∨ a = 78) by omega) rfl
theorem tg_370 {M M1 : mm_M} (F : FR (fun a i : Nat => a = 1 ∧ i = 1 ∨ a = 2) M M1) : ∀ a i : Nat, (81 ≤ a ∧ a ≤ 84) → M1.2.1 a i = M.2.1 a i := fun a i z => F_n F (show ¬ (a = 1 ∧ i = 1 ∨ a = 2) by omega) rfl
theorem tg_371 {M M1 : mm_M} (F : FR (fun a i : Nat => a = 77 ∧ (i = 1 ∨ i = 2) ∨ a = 78) M M1) : ∀ a i : Nat, WC_r a i → M1.2.1 a i = M.2.1 a i := fun a i z => F_n F (show ¬ (a = 77 ∧ (i = 1 ∨ i = 2) ∨ a = 78) by omega) rfl
theorem tg_372 {M M1 : mm_M} (F : FR (fun a i : Nat => a = 1 ∧ i = 1 ∨ a = 2) M M1) : ∀ a i : Nat, WC_r a i → M1.2.1 a i = M.2.1 a i := fun a i z => F_n F (show ¬ (a = 1 ∧ i = 1 ∨ a = 2) by omega) rfl
theorem tg_373 {M M1 : mm_M} (F : FR (fun a i : Nat => a = 77 ∧ (i = 1 ∨ i = 2) ∨ a = 78) M M1) : ∀ a i : Nat, NJ_r a i → M1.2.1 a i = M.2.1 a i := fun a i z => F_n F (show ¬ (a = 77 ∧ (i = 1 ∨ i = 2) ∨ a = 78) by omega) rfl
theorem tg_374 {M M1 : mm_M} (F : FR (fun a i : Nat => a = 1 ∧ i = 1 ∨ a = 2) M M1) : ∀ a i : Nat, NJ_r a i → M1.2.1 a i = M.2.1 a i := fun a i z => F_n F (show ¬ (a = 1 ∧ i = 1 ∨ a = 2) by omega) rfl
theorem tg_375 {M M1 : mm_M} (F : FR (fun a i : Nat => a = 77 ∧ (i = 1 ∨ i = 2) ∨ a = 78) M M1) : ∀ a i : Nat, (a = 100 ∨ a = 77 ∧ i = 28) → M1.2.1 a i = M.2.1 a i := fun a i z => F_n F (show ¬ (a = 77 ∧ (i = 1 ∨ i = 2) ∨ a = 78) by omega) rfl
theorem tg_376 {M M1 : mm_M} (F : FR (fun a i : Nat => a = 1 ∧ i = 1 ∨ a = 2) M M1) : ∀ a i : Nat, (a = 100 ∨ a = 77 ∧ i = 28) → M1.2.1 a i = M.2.1 a i := fun a i z => F_n F (show ¬ (a = 1 ∧ i = 1 ∨ a = 2) by omega) rfl
theorem tg_377 {M M1 : mm_M} (F : FR (fun a i : Nat => a = 77 ∧ (i = 1 ∨ i = 2) ∨ a = 78) M M1) : ∀ a i : Nat, KQ_r a i → M1.2.1 a i = M.2.1 a i := fun a i z => F_n F (show ¬ (a = 77 ∧ (i = 1 ∨ i = 2) ∨ a = 78) by omega) rfl
theorem tg_378 {M M1 : mm_M} (F : FR (fun a i : Nat => a = 1 ∧ i = 1 ∨ a = 2) M M1) : ∀ a i : Nat, KQ_r a i → M1.2.1 a i = M.2.1 a i := fun a i z => F_n F (show ¬ (a = 1 ∧ i = 1 ∨ a = 2) by omega) rfl
theorem tg_379 {M M1 : mm_M} (F : FR (fun a i : Nat => a = 77 ∧ (i = 1 ∨ i = 2) ∨ a = 78) M M1) : ∀ a i : Nat, a = 79 → M1.2.1 a i = M.2.1 a i := fun a i z => F_n F (show ¬ (a = 77 ∧ (i = 1 ∨ i = 2) ∨ a = 78) by omega) rfl
theorem tg_380 {M M1 : mm_M} (F : FR (fun a i : Nat => a = 1 ∧ i = 1 ∨ a = 2) M M1) : ∀ a i : Nat, a = 79 → M1.2.1 a i = M.2.1 a i := fun a i z => F_n F (show ¬ (a = 1 ∧ i = 1 ∨ a = 2) by omega) rfl
theorem tg_381 {M M1 : mm_M} (F : FR (fun a i : Nat => a = 77 ∧ (i = 1 ∨ i = 2) ∨ a = 78) M M1) : ∀ a i : Nat, 88 ≤ a ∧ a ≤ 89 → M1.2.1 a i = M.2.1 a i := fun a i z => F_n F (show ¬ (a = 77 ∧ (i = 1 ∨ i = 2) ∨ a = 78) by omega) rfl
theorem tg_382 {M M1 : mm_M} (F : FR (fun a i : Nat => a = 1 ∧ i = 1 ∨ a = 2) M M1) : ∀ a i : Nat, 88 ≤ a ∧ a ≤ 89 → M1.2.1 a i = M.2.1 a i := fun a i z => F_n F (show ¬ (a = 1 ∧ i = 1 ∨ a = 2) by omega) rfl
theorem tg_383 {M M1 : mm_M} (F : FRX (fun a i : Nat => a ≤ 76 ∧ ¬ a = 2) M M1) : ∀ a i : Nat, (81 ≤ a ∧ a ≤ 84) → M1.2.1 a i = M.2.1 a i := fun a i z => Fx_n F (show ¬ (a ≤ 76 ∧ ¬ a = 2) by omega) rfl
theorem tg_384 {M M1 : mm_M} (F : FRX (fun a i : Nat => a ≤ 76 ∧ ¬ a = 2) M M1) : ∀ a i : Nat, WC_r a i → M1.2.1 a i = M.2.1 a i := fun a i z => Fx_n F (show ¬ (a ≤ 76 ∧ ¬ a = 2) by omega) rfl
theorem tg_385 {M M1 : mm_M} (F : FRX (fun a i : Nat => a ≤ 76 ∧ ¬ a = 2) M M1) : ∀ a i : Nat, NJ_r a i → M1.2.1 a i = M.2.1 a i := fun a i z => Fx_n F (show ¬ (a ≤ 76 ∧ ¬ a = 2) by omega) rfl
theorem tg_386 {M M1 : mm_M} (F : FRX (fun a i : Nat => a ≤ 76 ∧ ¬ a = 2) M M1) : ∀ a i : Nat, (a = 100 ∨ a = 77 ∧ i = 28) → M1.2.1 a i = M.2.1 a i := fun a i z => Fx_n F (show ¬ (a ≤ 76 ∧ ¬ a = 2) by omega) rfl
theorem tg_387 {M M1 : mm_M} (F : FRX (fun a i : Nat => a ≤ 76 ∧ ¬ a = 2) M M1) : ∀ a i : Nat, KQ_r a i → M1.2.1 a i = M.2.1 a i := fun a i z => Fx_n F (show ¬ (a ≤ 76 ∧ ¬ a = 2) by omega) rfl
theorem tg_388 {M M1 : mm_M} (F : FRX (fun a i : Nat => a ≤ 76 ∧ ¬ a = 2) M M1) : ∀ a i : Nat, a = 78 → M1.2.1 a i = M.2.1 a i := fun a i z => Fx_n F (show ¬ (a ≤ 76 ∧ ¬ a = 2) by omega) rfl
theorem tg_389 {M M1 : mm_M} (F : FRX (fun a i : Nat => a ≤ 76 ∧ ¬ a = 2) M M1) : ∀ a i : Nat, a = 79 → M1.2.1 a i = M.2.1 a i := fun a i z => Fx_n F (show ¬ (a ≤ 76 ∧ ¬ a = 2) by omega) rfl
theorem tg_390 {M M1 : mm_M} (F : FR (fun a i : Nat => a = 77 ∨ 79 < a ∧ a ≤ 87 ∨ a = 100) M M1) : ∀ a i : Nat, PI_r a → M1.2.1 a i = M.2.1 a i := fun a i z => F_n F (show ¬ (a = 77 ∨ 79 < a ∧ a ≤ 87 ∨ a = 100) by omega) rfl
theorem tg_391 {M M1 : mm_M} (F : FR (fun a i : Nat => a = 77 ∨ 79 < a ∧ a ≤ 87 ∨ a = 100) M M1) : ∀ a i : Nat, (7 ≤ a ∧ a ≤ 9) → M1.2.1 a i = M.2.1 a i := fun a i z => F_n F (show ¬ (a = 77 ∨ 79 < a ∧ a ≤ 87 ∨ a = 100) by omega) rfl
theorem tg_392 {M M1 : mm_M} (F : FR (fun a i : Nat => a = 77 ∨ 79 < a ∧ a ≤ 87 ∨ a = 100) M M1) : ∀ a i : Nat, (a = 68 ∨ a = 69 ∨ a = 73 ∨ a = 74) → M1.2.1 a i = M.2.1 a i := fun a i z => F_n F (show ¬ (a = 77 ∨ 79 < a ∧ a ≤ 87 ∨ a = 100) by omega) rfl
theorem tg_393 {M M1 : mm_M} (F : FR (fun a i : Nat => a = 77 ∨ 79 < a ∧ a ≤ 87 ∨ a = 100) M M1) : ∀ a i : Nat, (a = 1 ∧ i = 1 ∨ a = 2 ∨ a = 78) → M1.2.1 a i = M.2.1 a i := fun a i z => F_n F (show ¬ (a = 77 ∨ 79 < a ∧ a ≤ 87 ∨ a = 100) by omega) rfl
theorem tg_394 {M M1 : mm_M} (F : FR (fun a i : Nat => a = 77 ∨ 79 < a ∧ a ≤ 87 ∨ a = 100) M M1) : ∀ a i : Nat, a = 79 → M1.2.1 a i = M.2.1 a i := fun a i z => F_n F (show ¬ (a = 77 ∨ 79 < a ∧ a ≤ 87 ∨ a = 100) by omega) rfl
theorem tg_395 {M M1 : mm_M} (F : FR (fun a i : Nat => a = 77 ∨ 79 < a ∧ a ≤ 87 ∨ a = 100) M M1) : ∀ a i : Nat, 88 ≤ a ∧ a ≤ 89 → M1.2.1 a i = M.2.1 a i := fun a i z => F_n F (show ¬ (a = 77 ∨ 79 < a ∧ a ≤ 87 ∨ a = 100) by omega) rfl
theorem tg_396 {M M1 : mm_M} (F : FRX (fun a i : Nat => a ≤ 76 ∧ ¬ a = 2) M M1) : ∀ a i : Nat, 88 ≤ a ∧ a ≤ 89 → M1.2.1 a i = M.2.1 a i := fun a i z => Fx_n F (show ¬ (a ≤ 76 ∧ ¬ a = 2) by omega) rfl
theorem tg_397 {M M1 : mm_M} (F : FR (fun a i : Nat => a = 1 ∨ 3 ≤ a ∧ a ≤ 5 ∨ 11 ≤ a ∧ a ≤ 16 ∨ 18 ≤ a ∧ a ≤ 48) M M1) : ∀ a i : Nat, (81 ≤ a ∧ a ≤ 84) → M1.2.1 a i = M.2.1 a i := fun a i z => F_n F (show ¬ (a = 1 ∨ 3 ≤ a ∧ a ≤ 5 ∨ 11 ≤ a ∧ a ≤ 16 ∨ 18 ≤ a ∧ a ≤ 48) by omega) rfl
theorem tg_398 {M M1 : mm_M} (F : FR (fun a i : Nat => a = 1 ∨ 3 ≤ a ∧ a ≤ 5 ∨ 11 ≤ a ∧ a ≤ 16 ∨ 18 ≤ a ∧ a ≤ 48) M M1) : ∀ a i : Nat, WC_r a i → M1.2.1 a i = M.2.1 a i := fun a i z => F_n F (show ¬ (a = 1 ∨ 3 ≤ a ∧ a ≤ 5 ∨ 11 ≤ a ∧ a ≤ 16 ∨ 18 ≤ a ∧ a ≤ 48) by omega) rfl
theorem tg_399 {M M1 : mm_M} (F : FR (fun a i : Nat => a = 1 ∨ 3 ≤ a ∧ a ≤ 5 ∨ 11 ≤ a ∧ a ≤ 16 ∨ 18 ≤ a ∧ a ≤ 48) M M1) : ∀ a i : Nat, NJ_r a i → M1.2.1 a i = M.2.1 a i := fun a i z => F_n F (show ¬ (a = 1 ∨ 3 ≤ a ∧ a ≤ 5 ∨ 11 ≤ a ∧ a ≤ 16 ∨ 18 ≤ a ∧ a ≤ 48) by omega) rfl
theorem tg_400 {M M1 : mm_M} (F : FR (fun a i : Nat => a = 1 ∨ 3 ≤ a ∧ a ≤ 5 ∨ 11 ≤ a ∧ a ≤ 16 ∨ 18 ≤ a ∧ a ≤ 48) M M1) : ∀ a i : Nat, (a = 100 ∨ a = 77 ∧ i = 28) → M1.2.1 a i = M.2.1 a i := fun a i z => F_n F (show ¬ (a = 1 ∨ 3 ≤ a ∧ a ≤ 5 ∨ 11 ≤ a ∧ a ≤ 16 ∨ 18 ≤ a ∧ a ≤ 48) by omega) rfl
theorem tg_401 {M M1 : mm_M} (F : FR (fun a i : Nat => a = 1 ∨ 3 ≤ a ∧ a ≤ 5 ∨ 11 ≤ a ∧ a ≤ 16 ∨ 18 ≤ a ∧ a ≤ 48) M M1) : ∀ a i : Nat, KQ_r a i → M1.2.1 a i = M.2.1 a i := fun a i z => F_n F (show ¬ (a = 1 ∨ 3 ≤ a ∧ a ≤ 5 ∨ 11 ≤ a ∧ a ≤ 16 ∨ 18 ≤ a ∧ a ≤ 48) by omega) rfl
theorem tg_402 {M M1 : mm_M} (F : FR (fun a i : Nat => a = 77 ∧ (1 ≤ i ∧ i ≤ 2 ∨ 4 ≤ i ∧ i ≤ 10 ∨ 42 ≤ i ∧ i ≤ 44 ∨ i = 52) ∨ 94 ≤ a ∧ a ≤ 111) M M1) : ∀ a i : Nat, PI_r a → M1.2.1 a i = M.2.1 a i := fun a i z => F_n F (show ¬ (a = 77 ∧ (1 ≤ i ∧ i ≤ 2 ∨ 4 ≤ i ∧ i ≤ 10 ∨ 42 ≤ i ∧ i ≤ 44 ∨ i = 52) ∨ 94 ≤ a ∧ a ≤ 111) by omega) rfl
theorem tg_403 {M M1 : mm_M} (F : FR (fun a i : Nat => a = 77 ∧ (1 ≤ i ∧ i ≤ 2 ∨ 4 ≤ i ∧ i ≤ 10 ∨ 42 ≤ i ∧ i ≤ 44 ∨ i = 52) ∨ 94 ≤ a ∧ a ≤ 111) M M1) : ∀ a i : Nat, (7 ≤ a ∧ a ≤ 9) → M1.2.1 a i = M.2.1 a i := fun a i z => F_n F (show ¬ (a = 77 ∧ (1 ≤ i ∧ i ≤ 2 ∨ 4 ≤ i ∧ i ≤ 10 ∨ 42 ≤ i ∧ i ≤ 44 ∨ i = 52) ∨ 94 ≤ a ∧ a ≤ 111) by omega) rfl
theorem tg_404 {M M1 : mm_M} (F : FR (fun a i : Nat => a = 77 ∧ (1 ≤ i ∧ i ≤ 2 ∨ 4 ≤ i ∧ i ≤ 10 ∨ 42 ≤ i ∧ i ≤ 44 ∨ i = 52) ∨ 94 ≤ a ∧ a ≤ 111) M M1) : ∀ a i : Nat, (a = 68 ∨ a = 69 ∨ a = 73 ∨ a = 74) → M1.2.1 a i = M.2.1 a i := fun a i z => F_n F (show ¬ (a = 77 ∧ (1 ≤ i ∧ i ≤ 2 ∨ 4 ≤ i ∧ i ≤ 10 ∨ 42 ≤ i ∧ i ≤ 44 ∨ i = 52) ∨ 94 ≤ a ∧ a ≤ 111) by omega) rfl
theorem tg_405 {M M1 : mm_M} (F : FR (fun a i : Nat => a = 77 ∧ (1 ≤ i ∧ i ≤ 2 ∨ 4 ≤ i ∧ i ≤ 10 ∨ 42 ≤ i ∧ i ≤ 44 ∨ i = 52) ∨ 94 ≤ a ∧ a ≤ 111) M M1) : ∀ a i : Nat, (a = 1 ∧ i = 1 ∨ a = 2 ∨ a = 78) → M1.2.1 a i = M.2.1 a i := fun a i z => F_n F (show ¬ (a = 77 ∧ (1 ≤ i ∧ i ≤ 2 ∨ 4 ≤ i ∧ i ≤ 10 ∨ 42 ≤ i ∧ i ≤ 44 ∨ i = 52) ∨ 94 ≤ a ∧ a ≤ 111) by omega) rfl
theorem tg_406 {M M1 : mm_M} (F : FR (fun a i : Nat => a = 77 ∧ (1 ≤ i ∧ i ≤ 2 ∨ 4 ≤ i ∧ i ≤ 10 ∨ 42 ≤ i ∧ i ≤ 44 ∨ i = 52) ∨ 94 ≤ a ∧ a ≤ 111) M M1) : ∀ a i : Nat, a = 79 → M1.2.1 a i = M.2.1 a i := fun a i z => F_n F (show ¬ (a = 77 ∧ (1 ≤ i ∧ i ≤ 2 ∨ 4 ≤ i ∧ i ≤ 10 ∨ 42 ≤ i ∧ i ≤ 44 ∨ i = 52) ∨ 94 ≤ a ∧ a ≤ 111) by omega) rfl
theorem tg_407 {M M1 : mm_M} (F : FR (fun a i : Nat => a = 1 ∨ 3 ≤ a ∧ a ≤ 5 ∨ 11 ≤ a ∧ a ≤ 16 ∨ 18 ≤ a ∧ a ≤ 48) M M1) : ∀ a i : Nat, a = 79 → M1.2.1 a i = M.2.1 a i := fun a i z => F_n F (show ¬ (a = 1 ∨ 3 ≤ a ∧ a ≤ 5 ∨ 11 ≤ a ∧ a ≤ 16 ∨ 18 ≤ a ∧ a ≤ 48) by omega) rfl
theorem tg_408 {M M1 : mm_M} (F : FR (fun a i : Nat => a = 77 ∧ (1 ≤ i ∧ i ≤ 2 ∨ 4 ≤ i ∧ i ≤ 10 ∨ 42 ≤ i ∧ i ≤ 44 ∨ i = 52) ∨ 94 ≤ a ∧ a ≤ 111) M M1) : ∀ a i : Nat, 88 ≤ a ∧ a ≤ 89 → M1.2.1 a i = M.2.1 a i := fun a i z => F_n F (show ¬ (a = 77 ∧ (1 ≤ i ∧ i ≤ 2 ∨ 4 ≤ i ∧ i ≤ 10 ∨ 42 ≤ i ∧ i ≤ 44 ∨ i = 52) ∨ 94 ≤ a ∧ a ≤ 111) by omega) rfl
theorem tg_409 {M M1 : mm_M} (F : FR (fun a i : Nat => a = 1 ∨ 3 ≤ a ∧ a ≤ 5 ∨ 11 ≤ a ∧ a ≤ 16 ∨ 18 ≤ a ∧ a ≤ 48) M M1) : ∀ a i : Nat, 88 ≤ a ∧ a ≤ 89 → M1.2.1 a i = M.2.1 a i := fun a i z => F_n F (show ¬ (a = 1 ∨ 3 ≤ a ∧ a ≤ 5 ∨ 11 ≤ a ∧ a ≤ 16 ∨ 18 ≤ a ∧ a ≤ 48) by omega) rfl
theorem tg_410 {M M1 : mm_M} (F : FRX (fun a i : Nat => a = 1 ∨ 3 ≤ a ∧ a ≤ 5 ∨ 67 ≤ a ∧ a ≤ 76) M M1) : ∀ a i : Nat, (81 ≤ a ∧ a ≤ 84) → M1.2.1 a i = M.2.1 a i := fun a i z => Fx_n F (show ¬ (a = 1 ∨ 3 ≤ a ∧ a ≤ 5 ∨ 67 ≤ a ∧ a ≤ 76) by omega) rfl
theorem tg_411 {M M1 : mm_M} (F : FRX (fun a i : Nat => a = 1 ∨ 3 ≤ a ∧ a ≤ 5 ∨ 67 ≤ a ∧ a ≤ 76) M M1) : ∀ a i : Nat, WC_r a i → M1.2.1 a i = M.2.1 a i := fun a i z => Fx_n F (show ¬ (a = 1 ∨ 3 ≤ a ∧ a ≤ 5 ∨ 67 ≤ a ∧ a ≤ 76) by omega) rfl
theorem tg_412 {M M1 : mm_M} (F : FRX (fun a i : Nat => a = 1 ∨ 3 ≤ a ∧ a ≤ 5 ∨ 67 ≤ a ∧ a ≤ 76) M M1) : ∀ a i : Nat, NJ_r a i → M1.2.1 a i = M.2.1 a i := fun a i z => Fx_n F (show ¬ (a = 1 ∨ 3 ≤ a ∧ a ≤ 5 ∨ 67 ≤ a ∧ a ≤ 76) by omega) rfl
theorem tg_413 {M M1 : mm_M} (F : FRX (fun a i : Nat => a = 1 ∨ 3 ≤ a ∧ a ≤ 5 ∨ 67 ≤ a ∧ a ≤ 76) M M1) : ∀ a i : Nat, (a = 100 ∨ a = 77 ∧ i = 28) → M1.2.1 a i = M.2.1 a i := fun a i z => Fx_n F (show ¬ (a = 1 ∨ 3 ≤ a ∧ a ≤ 5 ∨ 67 ≤ a ∧ a ≤ 76) by omega) rfl
theorem tg_414 {M M1 : mm_M} (F : FRX (fun a i : Nat => a = 1 ∨ 3 ≤ a ∧ a ≤ 5 ∨ 67 ≤ a ∧ a ≤ 76) M M1) : ∀ a i : Nat, KQ_r a i → M1.2.1 a i = M.2.1 a i := fun a i z => Fx_n F (show ¬ (a = 1 ∨ 3 ≤ a ∧ a ≤ 5 ∨ 67 ≤ a ∧ a ≤ 76) by omega) rfl
theorem tg_415 {M M1 : mm_M} (F : FR (fun a i : Nat => a = 77 ∧ (1 ≤ i ∧ i ≤ 2 ∨ 4 ≤ i ∧ i ≤ 10 ∨ 57 ≤ i ∧ i ≤ 59 ∨ 65 ≤ i ∧ i ≤ 69) ∨ 112 ≤ a ∧ a ≤ 116) M M1) : ∀ a i : Nat, PI_r a → M1.2.1 a i = M.2.1 a i := fun a i z => F_n F (show ¬ (a = 77 ∧ (1 ≤ i ∧ i ≤ 2 ∨ 4 ≤ i ∧ i ≤ 10 ∨ 57 ≤ i ∧ i ≤ 59 ∨ 65 ≤ i ∧ i ≤ 69) ∨ 112 ≤ a ∧ a ≤ 116) by omega) rfl
theorem tg_416 {M M1 : mm_M} (F : FR (fun a i : Nat => a = 77 ∧ (1 ≤ i ∧ i ≤ 2 ∨ 4 ≤ i ∧ i ≤ 10 ∨ 57 ≤ i ∧ i ≤ 59 ∨ 65 ≤ i ∧ i ≤ 69) ∨ 112 ≤ a ∧ a ≤ 116) M M1) : ∀ a i : Nat, (7 ≤ a ∧ a ≤ 9) → M1.2.1 a i = M.2.1 a i := fun a i z => F_n F (show ¬ (a = 77 ∧ (1 ≤ i ∧ i ≤ 2 ∨ 4 ≤ i ∧ i ≤ 10 ∨ 57 ≤ i ∧ i ≤ 59 ∨ 65 ≤ i ∧ i ≤ 69) ∨ 112 ≤ a ∧ a ≤ 116) by omega) rfl
theorem tg_417 {M M1 : mm_M} (F : FR (fun a i : Nat => a = 77 ∧ (1 ≤ i ∧ i ≤ 2 ∨ 4 ≤ i ∧ i ≤ 10 ∨ 57 ≤ i ∧ i ≤ 59 ∨ 65 ≤ i ∧ i ≤ 69) ∨ 112 ≤ a ∧ a ≤ 116) M M1) : ∀ a i : Nat, (a = 68 ∨ a = 69 ∨ a = 73 ∨ a = 74) → M1.2.1 a i = M.2.1 a i := fun a i z => F_n F (show ¬ (a = 77 ∧ (1 ≤ i ∧ i ≤ 2 ∨ 4 ≤ i ∧ i ≤ 10 ∨ 57 ≤ i ∧ i ≤ 59 ∨ 65 ≤ i ∧ i ≤ 69) ∨ 112 ≤ a ∧ a ≤ 116) by omega) rfl
theorem tg_418 {M M1 : mm_M} (F : FR (fun a i : Nat => a = 77 ∧ (1 ≤ i ∧ i ≤ 2 ∨ 4 ≤ i ∧ i ≤ 10 ∨ 57 ≤ i ∧ i ≤ 59 ∨ 65 ≤ i ∧ i ≤ 69) ∨ 112 ≤ a ∧ a ≤ 116) M M1) : ∀ a i : Nat, (a = 1 ∧ i = 1 ∨ a = 2 ∨ a = 78) → M1.2.1 a i = M.2.1 a i := fun a i z => F_n F (show ¬ (a = 77 ∧ (1 ≤ i ∧ i ≤ 2 ∨ 4 ≤ i ∧ i ≤ 10 ∨ 57 ≤ i ∧ i ≤ 59 ∨ 65 ≤ i ∧ i ≤ 69) ∨ 112 ≤ a ∧ a ≤ 116) by omega) rfl
theorem tg_419 {M M1 : mm_M} (F : FR (fun a i : Nat => a = 77 ∧ (1 ≤ i ∧ i ≤ 2 ∨ 4 ≤ i ∧ i ≤ 10 ∨ 57 ≤ i ∧ i ≤ 59 ∨ 65 ≤ i ∧ i ≤ 69) ∨ 112 ≤ a ∧ a ≤ 116) M M1) : ∀ a i : Nat, a = 79 → M1.2.1 a i = M.2.1 a i := fun a i z => F_n F (show ¬ (a = 77 ∧ (1 ≤ i ∧ i ≤ 2 ∨ 4 ≤ i ∧ i ≤ 10 ∨ 57 ≤ i ∧ i ≤ 59 ∨ 65 ≤ i ∧ i ≤ 69) ∨ 112 ≤ a ∧ a ≤ 116) by omega) rfl
theorem tg_420 {M M1 : mm_M} (F : FRX (fun a i : Nat => a = 1 ∨ 3 ≤ a ∧ a ≤ 5 ∨ 67 ≤ a ∧ a ≤ 76) M M1) : ∀ a i : Nat, a = 79 → M1.2.1 a i = M.2.1 a i := fun a i z => Fx_n F (show ¬ (a = 1 ∨ 3 ≤ a ∧ a ≤ 5 ∨ 67 ≤ a ∧ a ≤ 76) by omega) rfl
theorem tg_421 {M M1 : mm_M} (F : FR (fun a i : Nat => a = 77 ∧ (1 ≤ i ∧ i ≤ 2 ∨ 4 ≤ i ∧ i ≤ 10 ∨ 57 ≤ i ∧ i ≤ 59 ∨ 65 ≤ i ∧ i ≤ 69) ∨ 112 ≤ a ∧ a ≤ 116) M M1) : ∀ a i : Nat, 88 ≤ a ∧ a ≤ 89 → M1.2.1 a i = M.2.1 a i := fun a i z => F_n F (show ¬ (a = 77 ∧ (1 ≤ i ∧ i ≤ 2 ∨ 4 ≤ i ∧ i ≤ 10 ∨ 57 ≤ i ∧ i ≤ 59 ∨ 65 ≤ i ∧ i ≤ 69) ∨ 112 ≤ a ∧ a ≤ 116) by omega) rfl
theorem tg_422 {M M1 : mm_M} (F : FRX (fun a i : Nat => a = 1 ∨ 3 ≤ a ∧ a ≤ 5 ∨ 67 ≤ a ∧ a ≤ 76) M M1) : ∀ a i : Nat, 88 ≤ a ∧ a ≤ 89 → M1.2.1 a i = M.2.1 a i := fun a i z => Fx_n F (show ¬ (a = 1 ∨ 3 ≤ a ∧ a ≤ 5 ∨ 67 ≤ a ∧ a ≤ 76) by omega) rfl
theorem tg_423 {M M1 : mm_M} (F : FR (fun a i : Nat => a = 77 ∧ i = 2) M M1) : ∀ a i : Nat, PI_r a → M1.2.1 a i = M.2.1 a i := fun a i z => F_n F (show ¬ (a = 77 ∧ i = 2) by omega) rfl
theorem tg_424 {M M1 : mm_M} (F : FR (fun a i : Nat => a = 77 ∧ i = 2) M M1) : ∀ a i : Nat, (7 ≤ a ∧ a ≤ 9) → M1.2.1 a i = M.2.1 a i := fun a i z => F_n F (show ¬ (a = 77 ∧ i = 2) by omega) rfl
theorem tg_425 {M M1 : mm_M} (F : FR (fun a i : Nat => a = 77 ∧ i = 2) M M1) : ∀ a i : Nat, (a = 68 ∨ a = 69 ∨ a = 73 ∨ a = 74) → M1.2.1 a i = M.2.1 a i := fun a i z => F_n F (show ¬ (a = 77 ∧ i = 2) by omega) rfl
theorem tg_426 {M M1 : mm_M} (F : FR (fun a i : Nat => a = 77 ∧ i = 2) M M1) : ∀ a i : Nat, (81 ≤ a ∧ a ≤ 84) → M1.2.1 a i = M.2.1 a i := fun a i z => F_n F (show ¬ (a = 77 ∧ i = 2) by omega) rfl
theorem tg_427 {M M1 : mm_M} (F : FR (fun a i : Nat => a = 77 ∧ i = 2) M M1) : ∀ a i : Nat, WC_r a i → M1.2.1 a i = M.2.1 a i := fun a i z => F_n F (show ¬ (a = 77 ∧ i = 2) by omega) rfl
theorem tg_428 {M M1 : mm_M} (F : FR (fun a i : Nat => a < 0) M M1) : ∀ a i : Nat, WC_r a i → M1.2.1 a i = M.2.1 a i := fun a i z => F_n F (show ¬ (a < 0) by omega) rfl
theorem tg_429 {M M1 : mm_M} (F : FR (fun a i : Nat => a = 77 ∧ i = 2) M M1) : ∀ a i : Nat, NJ_r a i → M1.2.1 a i = M.2.1 a i := fun a i z => F_n F (show ¬ (a = 77 ∧ i = 2) by omega) rfl
theorem tg_430 {M M1 : mm_M} (F : FR (fun a i : Nat => a = 77 ∧ i = 2) M M1) : ∀ a i : Nat, (a = 100 ∨ a = 77 ∧ i = 28) → M1.2.1 a i = M.2.1 a i := fun a i z => F_n F (show ¬ (a = 77 ∧ i = 2) by omega) rfl
theorem tg_431 {M M1 : mm_M} (F : FR (fun a i : Nat => a < 0) M M1) : ∀ a i : Nat, (a = 100 ∨ a = 77 ∧ i = 28) → M1.2.1 a i = M.2.1 a i := fun a i z => F_n F (show ¬ (a < 0) by omega) rfl
theorem tg_432 {M M1 : mm_M} (F : FR (fun a i : Nat => a = 77 ∧ i = 2) M M1) : ∀ a i : Nat, KQ_r a i → M1.2.1 a i = M.2.1 a i := fun a i z => F_n F (show ¬ (a = 77 ∧ i = 2) by omega) rfl
theorem tg_433 {M M1 : mm_M} (F : FR (fun a i : Nat => a = 77 ∧ i = 2) M M1) : ∀ a i : Nat, (a = 1 ∧ i = 1 ∨ a = 2 ∨ a = 78) → M1.2.1 a i = M.2.1 a i := fun a i z => F_n F (show ¬ (a = 77 ∧ i = 2) by omega) rfl
theorem tg_434 {M M1 : mm_M} (F : FR (fun a i : Nat => a < 0) M M1) : ∀ a i : Nat, (a = 1 ∧ i = 1 ∨ a = 2 ∨ a = 78) → M1.2.1 a i = M.2.1 a i := fun a i z => F_n F (show ¬ (a < 0) by omega) rfl
theorem tg_435 {M M1 : mm_M} (F : FR (fun a i : Nat => a = 77 ∧ i = 2) M M1) : ∀ a i : Nat, a = 79 → M1.2.1 a i = M.2.1 a i := fun a i z => F_n F (show ¬ (a = 77 ∧ i = 2) by omega) rfl
theorem tg_436 {M M1 : mm_M} (F : FR (fun a i : Nat => a = 77 ∧ i = 2) M M1) : ∀ a i : Nat, 88 ≤ a ∧ a ≤ 89 → M1.2.1 a i = M.2.1 a i := fun a i z => F_n F (show ¬ (a = 77 ∧ i = 2) by omega) rfl
theorem tg_437 {M M1 : mm_M} (F : FR (fun a i : Nat => a < 0) M M1) : ∀ a i : Nat, 88 ≤ a ∧ a ≤ 89 → M1.2.1 a i = M.2.1 a i := fun a i z => F_n F (show ¬ (a < 0) by omega) rfl
theorem tg_438 {M M1 : mm_M} (F : FR (fun a i : Nat => 11 ≤ a ∧ a ≤ 16 ∨ 18 ≤ a ∧ a ≤ 48 ∨ 67 ≤ a ∧ a ≤ 76) M M1) : ∀ a i : Nat, NJ_r a i → M1.2.1 a i = M.2.1 a i := fun a i z => F_n F (show ¬ (11 ≤ a ∧ a ≤ 16 ∨ 18 ≤ a ∧ a ≤ 48 ∨ 67 ≤ a ∧ a ≤ 76) by omega) rfl
theorem tg_439 {M M1 : mm_M} (F : FR (fun a i : Nat => a = 77 ∧ i = 2 ∨ 94 ≤ a ∧ a ≤ 98) M M1) : ∀ a i : Nat, PI_r a → M1.2.1 a i = M.2.1 a i := fun a i z => F_n F (show ¬ (a = 77 ∧ i = 2 ∨ 94 ≤ a ∧ a ≤ 98) by omega) rfl
theorem tg_440 {M M1 : mm_M} (F : FR (fun a i : Nat => a = 77 ∧ i = 2 ∨ 94 ≤ a ∧ a ≤ 98) M M1) : ∀ a i : Nat, (7 ≤ a ∧ a ≤ 9) → M1.2.1 a i = M.2.1 a i := fun a i z => F_n F (show ¬ (a = 77 ∧ i = 2 ∨ 94 ≤ a ∧ a ≤ 98) by omega) rfl
theorem tg_441 {M M1 : mm_M} (F : FR (fun a i : Nat => a = 77 ∧ i = 2 ∨ 94 ≤ a ∧ a ≤ 98) M M1) : ∀ a i : Nat, (a = 68 ∨ a = 69 ∨ a = 73 ∨ a = 74) → M1.2.1 a i = M.2.1 a i := fun a i z => F_n F (show ¬ (a = 77 ∧ i = 2 ∨ 94 ≤ a ∧ a ≤ 98) by omega) rfl
theorem tg_442 {M M1 : mm_M} (F : FR (fun a i : Nat => a = 77 ∧ i = 2 ∨ 94 ≤ a ∧ a ≤ 98) M M1) : ∀ a i : Nat, (81 ≤ a ∧ a ≤ 84) → M1.2.1 a i = M.2.1 a i := fun a i z => F_n F (show ¬ (a = 77 ∧ i = 2 ∨ 94 ≤ a ∧ a ≤ 98) by omega) rfl
theorem tg_443 {M M1 : mm_M} (F : FR (fun a i : Nat => 11 ≤ a ∧ a ≤ 16 ∨ 18 ≤ a ∧ a ≤ 48 ∨ 67 ≤ a ∧ a ≤ 76) M M1) : ∀ a i : Nat, (81 ≤ a ∧ a ≤ 84) → M1.2.1 a i = M.2.1 a i := fun a i z => F_n F (show ¬ (11 ≤ a ∧ a ≤ 16 ∨ 18 ≤ a ∧ a ≤ 48 ∨ 67 ≤ a ∧ a ≤ 76) by omega) rfl
theorem tg_444 {M M1 : mm_M} (F : FR (fun a i : Nat => a = 77 ∧ i = 2 ∨ 94 ≤ a ∧ a ≤ 98) M M1) : ∀ a i : Nat, WC_r a i → M1.2.1 a i = M.2.1 a i := fun a i z => F_n F (show ¬ (a = 77 ∧ i = 2 ∨ 94 ≤ a ∧ a ≤ 98) by omega) rfl
theorem tg_445 {M M1 : mm_M} (F : FR (fun a i : Nat => 11 ≤ a ∧ a ≤ 16 ∨ 18 ≤ a ∧ a ≤ 48 ∨ 67 ≤ a ∧ a ≤ 76) M M1) : ∀ a i : Nat, WC_r a i → M1.2.1 a i = M.2.1 a i := fun a i z => F_n F (show ¬ (11 ≤ a ∧ a ≤ 16 ∨ 18 ≤ a ∧ a ≤ 48 ∨ 67 ≤ a ∧ a ≤ 76) by omega) rfl
theorem tg_446 {M M1 : mm_M} (F : FR (fun a i : Nat => a = 77 ∧ i = 2 ∨ 94 ≤ a ∧ a ≤ 98) M M1) : ∀ a i : Nat, NJ_r a i → M1.2.1 a i = M.2.1 a i := fun a i z => F_n F (show ¬ (a = 77 ∧ i = 2 ∨ 94 ≤ a ∧ a ≤ 98) by omega) rfl
theorem tg_447 {M M1 : mm_M} (F : FR (fun a i : Nat => a = 77 ∧ i = 2 ∨ 94 ≤ a ∧ a ≤ 98) M M1) : ∀ a i : Nat, (a = 100 ∨ a = 77 ∧ i = 28) → M1.2.1 a i = M.2.1 a i := fun a i z => F_n F (show ¬ (a = 77 ∧ i = 2 ∨ 94 ≤ a ∧ a ≤ 98) by omega) rfl
theorem tg_448 {M M1 : mm_M} (F : FR (fun a i : Nat => 11 ≤ a ∧ a ≤ 16 ∨ 18 ≤ a ∧ a ≤ 48 ∨ 67 ≤ a ∧ a ≤ 76) M M1) : ∀ a i : Nat, (a = 100 ∨ a = 77 ∧ i = 28) → M1.2.1 a i = M.2.1 a i := fun a i z => F_n F (show ¬ (11 ≤ a ∧ a ≤ 16 ∨ 18 ≤ a ∧ a ≤ 48 ∨ 67 ≤ a ∧ a ≤ 76) by omega) rfl
theorem tg_449 {M M1 : mm_M} (F : FR (fun a i : Nat => a = 77 ∧ i = 2 ∨ 94 ≤ a ∧ a ≤ 98) M M1) : ∀ a i : Nat, KQ_r a i → M1.2.1 a i = M.2.1 a i := fun a i z => F_n F (show ¬ (a = 77 ∧ i = 2 ∨ 94 ≤ a ∧ a ≤ 98) by omega) rfl
theorem tg_450 {M M1 : mm_M} (F : FR (fun a i : Nat => 11 ≤ a ∧ a ≤ 16 ∨ 18 ≤ a ∧ a ≤ 48 ∨ 67 ≤ a ∧ a ≤ 76) M M1) : ∀ a i : Nat, KQ_r a i → M1.2.1 a i = M.2.1 a i := fun a i z => F_n F (show ¬ (11 ≤ a ∧ a ≤ 16 ∨ 18 ≤ a ∧ a ≤ 48 ∨ 67 ≤ a ∧ a ≤ 76) by omega) rfl
theorem tg_451 {M M1 : mm_M} (F : FR (fun a i : Nat => a = 77 ∧ i = 2 ∨ 94 ≤ a ∧ a ≤ 98) M M1) : ∀ a i : Nat, (a = 1 ∧ i = 1 ∨ a = 2 ∨ a = 78) → M1.2.1 a i = M.2.1 a i := fun a i z => F_n F (show ¬ (a = 77 ∧ i = 2 ∨ 94 ≤ a ∧ a ≤ 98) by omega) rfl
theorem tg_452 {M M1 : mm_M} (F : FR (fun a i : Nat => 11 ≤ a ∧ a ≤ 16 ∨ 18 ≤ a ∧ a ≤ 48 ∨ 67 ≤ a ∧ a ≤ 76) M M1) : ∀ a i : Nat, (a = 1 ∧ i = 1 ∨ a = 2 ∨ a = 78) → M1.2.1 a i = M.2.1 a i := fun a i z => F_n F (show ¬ (11 ≤ a ∧ a ≤ 16 ∨ 18 ≤ a ∧ a ≤ 48 ∨ 67 ≤ a ∧ a ≤ 76) by omega) rfl
theorem tg_453 {M M1 : mm_M} (F : FR (fun a i : Nat => a = 77 ∧ i = 2 ∨ 94 ≤ a ∧ a ≤ 98) M M1) : ∀ a i : Nat, a = 79 → M1.2.1 a i = M.2.1 a i := fun a i z => F_n F (show ¬ (a = 77 ∧ i = 2 ∨ 94 ≤ a ∧ a ≤ 98) by omega) rfl
theorem tg_454 {M M1 : mm_M} (F : FR (fun a i : Nat => 11 ≤ a ∧ a ≤ 16 ∨ 18 ≤ a ∧ a ≤ 48 ∨ 67 ≤ a ∧ a ≤ 76) M M1) : ∀ a i : Nat, a = 79 → M1.2.1 a i = M.2.1 a i := fun a i z => F_n F (show ¬ (11 ≤ a ∧ a ≤ 16 ∨ 18 ≤ a ∧ a ≤ 48 ∨ 67 ≤ a ∧ a ≤ 76) by omega) rfl
theorem tg_455 {M M1 : mm_M} (F : FR (fun a i : Nat => a = 77 ∧ i = 2 ∨ 94 ≤ a ∧ a ≤ 98) M M1) : ∀ a i : Nat, 88 ≤ a ∧ a ≤ 89 → M1.2.1 a i = M.2.1 a i := fun a i z => F_n F (show ¬ (a = 77 ∧ i = 2 ∨ 94 ≤ a ∧ a ≤ 98) by omega) rfl
theorem tg_456 {M M1 : mm_M} (F : FR (fun a i : Nat => 11 ≤ a ∧ a ≤ 16 ∨ 18 ≤ a ∧ a ≤ 48 ∨ 67 ≤ a ∧ a ≤ 76) M M1) : ∀ a i : Nat, 88 ≤ a ∧ a ≤ 89 → M1.2.1 a i = M.2.1 a i := fun a i z => F_n F (show ¬ (11 ≤ a ∧ a ≤ 16 ∨ 18 ≤ a ∧ a ≤ 48 ∨ 67 ≤ a ∧ a ≤ 76) by omega) rfl
theorem tg_457 {M M1 : mm_M} (F : FR (fun a i : Nat => a = 0 ∧ i = 12 ∨ 18 ≤ a ∧ a ≤ 27) M M1) : ∀ a i : Nat, (a = 100 ∨ a = 77 ∧ i = 28) → M1.2.1 a i = M.2.1 a i := fun a i z => F_n F (show ¬ (a = 0 ∧ i = 12 ∨ 18 ≤ a ∧ a ≤ 27) by omega) rfl
theorem tg_458 {M M1 : mm_M} (F : FR (fun a i : Nat => a = 77 ∧ (i = 2 ∨ i = 28) ∨ a = 99 ∨ a = 100) M M1) : ∀ a i : Nat, PI_r a → M1.2.1 a i = M.2.1 a i := fun a i z => F_n F (show ¬ (a = 77 ∧ (i = 2 ∨ i = 28) ∨ a = 99 ∨ a = 100) by omega) rfl
theorem tg_459 {M M1 : mm_M} (F : FR (fun a i : Nat => a = 77 ∧ (i = 2 ∨ i = 28) ∨ a = 99 ∨ a = 100) M M1) : ∀ a i : Nat, (7 ≤ a ∧ a ≤ 9) → M1.2.1 a i = M.2.1 a i := fun a i z => F_n F (show ¬ (a = 77 ∧ (i = 2 ∨ i = 28) ∨ a = 99 ∨ a = 100) by omega) rfl
theorem tg_460 {M M1 : mm_M} (F : FR (fun a i : Nat => a = 77 ∧ (i = 2 ∨ i = 28) ∨ a = 99 ∨ a = 100) M M1) : ∀ a i : Nat, (a = 68 ∨ a = 69 ∨ a = 73 ∨ a = 74) → M1.2.1 a i = M.2.1 a i := fun a i z => F_n F (show ¬ (a = 77 ∧ (i = 2 ∨ i = 28) ∨ a = 99 ∨ a = 100) by omega) rfl
theorem tg_461 {M M1 : mm_M} (F : FR (fun a i : Nat => a = 77 ∧ (i = 2 ∨ i = 28) ∨ a = 99 ∨ a = 100) M M1) : ∀ a i : Nat, (81 ≤ a ∧ a ≤ 84) → M1.2.1 a i = M.2.1 a i := fun a i z => F_n F (show ¬ (a = 77 ∧ (i = 2 ∨ i = 28) ∨ a = 99 ∨ a = 100) by omega) rfl
theorem tg_462 {M M1 : mm_M} (F : FR (fun a i : Nat => a = 0 ∧ i = 12 ∨ 18 ≤ a ∧ a ≤ 27) M M1) : ∀ a i : Nat, (81 ≤ a ∧ a ≤ 84) → M1.2.1 a i = M.2.1 a i := fun a i z => F_n F (show ¬ (a = 0 ∧ i = 12 ∨ 18 ≤ a ∧ a ≤ 27) by omega) rfl
theorem tg_463 {M M1 : mm_M} (F : FR (fun a i : Nat => a = 77 ∧ (i = 2 ∨ i = 28) ∨ a = 99 ∨ a = 100) M M1) : ∀ a i : Nat, WC_r a i → M1.2.1 a i = M.2.1 a i := fun a i z => F_n F (show ¬ (a = 77 ∧ (i = 2 ∨ i = 28) ∨ a = 99 ∨ a = 100) by omega) rfl
theorem tg_464 {M M1 : mm_M} (F : FR (fun a i : Nat => a = 0 ∧ i = 12 ∨ 18 ≤ a ∧ a ≤ 27) M M1) : ∀ a i : Nat, WC_r a i → M1.2.1 a i = M.2.1 a i := fun a i z => F_n F (show ¬ (a = 0 ∧ i = 12 ∨ 18 ≤ a ∧ a ≤ 27) by omega) rfl
theorem tg_465 {M M1 : mm_M} (F : FR (fun a i : Nat => a = 77 ∧ (i = 2 ∨ i = 28) ∨ a = 99 ∨ a = 100) M M1) : ∀ a i : Nat, NJ_r a i → M1.2.1 a i = M.2.1 a i := fun a i z => F_n F (show ¬ (a = 77 ∧ (i = 2 ∨ i = 28) ∨ a = 99 ∨ a = 100) by omega) rfl
theorem tg_466 {M M1 : mm_M} (F : FR (fun a i : Nat => a = 0 ∧ i = 12 ∨ 18 ≤ a ∧ a ≤ 27) M M1) : ∀ a i : Nat, NJ_r a i → M1.2.1 a i = M.2.1 a i := fun a i z => F_n F (show ¬ (a = 0 ∧ i = 12 ∨ 18 ≤ a ∧ a ≤ 27) by omega) rfl
theorem tg_467 {M M1 : mm_M} (F : FR (fun a i : Nat => a = 77 ∧ (i = 2 ∨ i = 28) ∨ a = 99 ∨ a = 100) M M1) : ∀ a i : Nat, KQ_r a i → M1.2.1 a i = M.2.1 a i := fun a i z => F_n F (show ¬ (a = 77 ∧ (i = 2 ∨ i = 28) ∨ a = 99 ∨ a = 100) by omega) rfl
theorem tg_468 {M M1 : mm_M} (F : FR (fun a i : Nat => a = 0 ∧ i = 12 ∨ 18 ≤ a ∧ a ≤ 27) M M1) : ∀ a i : Nat, KQ_r a i → M1.2.1 a i = M.2.1 a i := fun a i z => F_n F (show ¬ (a = 0 ∧ i = 12 ∨ 18 ≤ a ∧ a ≤ 27) by omega) rfl
theorem tg_469 {M M1 : mm_M} (F : FR (fun a i : Nat => a = 77 ∧ (i = 2 ∨ i = 28) ∨ a = 99 ∨ a = 100) M M1) : ∀ a i : Nat, (a = 1 ∧ i = 1 ∨ a = 2 ∨ a = 78) → M1.2.1 a i = M.2.1 a i := fun a i z => F_n F (show ¬ (a = 77 ∧ (i = 2 ∨ i = 28) ∨ a = 99 ∨ a = 100) by omega) rfl
theorem tg_470 {M M1 : mm_M} (F : FR (fun a i : Nat => a = 0 ∧ i = 12 ∨ 18 ≤ a ∧ a ≤ 27) M M1) : ∀ a i : Nat, (a = 1 ∧ i = 1 ∨ a = 2 ∨ a = 78) → M1.2.1 a i = M.2.1 a i := fun a i z => F_n F (show ¬ (a = 0 ∧ i = 12 ∨ 18 ≤ a ∧ a ≤ 27) by omega) rfl
theorem tg_471 {M M1 : mm_M} (F : FR (fun a i : Nat => a = 77 ∧ (i = 2 ∨ i = 28) ∨ a = 99 ∨ a = 100) M M1) : ∀ a i : Nat, a = 79 → M1.2.1 a i = M.2.1 a i := fun a i z => F_n F (show ¬ (a = 77 ∧ (i = 2 ∨ i = 28) ∨ a = 99 ∨ a = 100) by omega) rfl
theorem tg_472 {M M1 : mm_M} (F : FR (fun a i : Nat => a = 0 ∧ i = 12 ∨ 18 ≤ a ∧ a ≤ 27) M M1) : ∀ a i : Nat, a = 79 → M1.2.1 a i = M.2.1 a i := fun a i z => F_n F (show ¬ (a = 0 ∧ i = 12 ∨ 18 ≤ a ∧ a ≤ 27) by omega) rfl
theorem tg_473 {M M1 : mm_M} (F : FR (fun a i : Nat => a = 77 ∧ (i = 2 ∨ i = 28) ∨ a = 99 ∨ a = 100) M M1) : ∀ a i : Nat, 88 ≤ a ∧ a ≤ 89 → M1.2.1 a i = M.2.1 a i := fun a i z => F_n F (show ¬ (a = 77 ∧ (i = 2 ∨ i = 28) ∨ a = 99 ∨ a = 100) by omega) rfl
theorem tg_474 {M M1 : mm_M} (F : FR (fun a i : Nat => a = 0 ∧ i = 12 ∨ 18 ≤ a ∧ a ≤ 27) M M1) : ∀ a i : Nat, 88 ≤ a ∧ a ≤ 89 → M1.2.1 a i = M.2.1 a i := fun a i z => F_n F (show ¬ (a = 0 ∧ i = 12 ∨ 18 ≤ a ∧ a ≤ 27) by omega) rfl
theorem tg_475 {M M1 : mm_M} (F : FR (fun a i : Nat => 6 ≤ a ∧ a ≤ 10) M M1) : ∀ a i : Nat, NJ_r a i → M1.2.1 a i = M.2.1 a i := fun a i z => F_n F (show ¬ (6 ≤ a ∧ a ≤ 10) by omega) rfl
theorem tg_476 {M M1 : mm_M} (F : FR (fun a i : Nat => 6 ≤ a ∧ a ≤ 10) M M1) : ∀ a i : Nat, (81 ≤ a ∧ a ≤ 84) → M1.2.1 a i = M.2.1 a i := fun a i z => F_n F (show ¬ (6 ≤ a ∧ a ≤ 10) by omega) rfl
theorem tg_477 {M M1 : mm_M} (F : FR (fun a i : Nat => 6 ≤ a ∧ a ≤ 10) M M1) : ∀ a i : Nat, (a = 77 ∧ 11 ≤ i ∧ i ≤ 13 ∨ 80 ≤ a ∧ a ≤ 84 ∧ i < 8 ∨ 85 ≤ a ∧ a ≤ 86 ∧ i < 12) → M1.2.1 a i = M.2.1 a i := fun a i z => F_n F (show ¬ (6 ≤ a ∧ a ≤ 10) by omega) rfl
theorem tg_478 {M M1 : mm_M} (F : FR (fun a i : Nat => a = 77 ∧ (i = 2 ∨ i = 29) ∨ 90 ≤ a ∧ a ≤ 93) M M1) : ∀ a i : Nat, PI_r a → M1.2.1 a i = M.2.1 a i := fun a i z => F_n F (show ¬ (a = 77 ∧ (i = 2 ∨ i = 29) ∨ 90 ≤ a ∧ a ≤ 93) by omega) rfl
theorem tg_479 {M M1 : mm_M} (F : FR (fun a i : Nat => a = 77 ∧ (i = 2 ∨ i = 29) ∨ 90 ≤ a ∧ a ≤ 93) M M1) : ∀ a i : Nat, (7 ≤ a ∧ a ≤ 9) → M1.2.1 a i = M.2.1 a i := fun a i z => F_n F (show ¬ (a = 77 ∧ (i = 2 ∨ i = 29) ∨ 90 ≤ a ∧ a ≤ 93) by omega) rfl
theorem tg_480 {M M1 : mm_M} (F : FR (fun a i : Nat => a = 77 ∧ (i = 2 ∨ i = 29) ∨ 90 ≤ a ∧ a ≤ 93) M M1) : ∀ a i : Nat, (a = 68 ∨ a = 69 ∨ a = 73 ∨ a = 74) → M1.2.1 a i = M.2.1 a i := fun a i z => F_n F (show ¬ (a = 77 ∧ (i = 2 ∨ i = 29) ∨ 90 ≤ a ∧ a ≤ 93) by omega) rfl
theorem tg_481 {M M1 : mm_M} (F : FR (fun a i : Nat => a = 77 ∧ (i = 2 ∨ i = 29) ∨ 90 ≤ a ∧ a ≤ 93) M M1) : ∀ a i : Nat, (81 ≤ a ∧ a ≤ 84) → M1.2.1 a i = M.2.1 a i := fun a i z => F_n F (show ¬ (a = 77 ∧ (i = 2 ∨ i = 29) ∨ 90 ≤ a ∧ a ≤ 93) by omega) rfl
theorem tg_482 {M M1 : mm_M} (F : FR (fun a i : Nat => a = 77 ∧ (i = 2 ∨ i = 29) ∨ 90 ≤ a ∧ a ≤ 93) M M1) : ∀ a i : Nat, WC_r a i → M1.2.1 a i = M.2.1 a i := fun a i z => F_n F (show ¬ (a = 77 ∧ (i = 2 ∨ i = 29) ∨ 90 ≤ a ∧ a ≤ 93) by omega) rfl
theorem tg_483 {M M1 : mm_M} (F : FR (fun a i : Nat => 6 ≤ a ∧ a ≤ 10) M M1) : ∀ a i : Nat, WC_r a i → M1.2.1 a i = M.2.1 a i := fun a i z => F_n F (show ¬ (6 ≤ a ∧ a ≤ 10) by omega) rfl
theorem tg_484 {M M1 : mm_M} (F : FR (fun a i : Nat => a = 77 ∧ (i = 2 ∨ i = 29) ∨ 90 ≤ a ∧ a ≤ 93) M M1) : ∀ a i : Nat, (a = 100 ∨ a = 77 ∧ i = 28) → M1.2.1 a i = M.2.1 a i := fun a i z => F_n F (show ¬ (a = 77 ∧ (i = 2 ∨ i = 29) ∨ 90 ≤ a ∧ a ≤ 93) by omega) rfl
theorem tg_485 {M M1 : mm_M} (F : FR (fun a i : Nat => 6 ≤ a ∧ a ≤ 10) M M1) : ∀ a i : Nat, (a = 100 ∨ a = 77 ∧ i = 28) → M1.2.1 a i = M.2.1 a i := fun a i z => F_n F (show ¬ (6 ≤ a ∧ a ≤ 10) by omega) rfl
theorem tg_486 {M M1 : mm_M} (F : FR (fun a i : Nat => a = 77 ∧ (i = 2 ∨ i = 29) ∨ 90 ≤ a ∧ a ≤ 93) M M1) : ∀ a i : Nat, KQ_r a i → M1.2.1 a i = M.2.1 a i := fun a i z => F_n F (show ¬ (a = 77 ∧ (i = 2 ∨ i = 29) ∨ 90 ≤ a ∧ a ≤ 93) by omega) rfl
theorem tg_487 {M M1 : mm_M} (F : FR (fun a i : Nat => 6 ≤ a ∧ a ≤ 10) M M1) : ∀ a i : Nat, KQ_r a i → M1.2.1 a i = M.2.1 a i := fun a i z => F_n F (show ¬ (6 ≤ a ∧ a ≤ 10) by omega) rfl
theorem tg_488 {M M1 : mm_M} (F : FR (fun a i : Nat => a = 77 ∧ (i = 2 ∨ i = 29) ∨ 90 ≤ a ∧ a ≤ 93) M M1) : ∀ a i : Nat, (a = 1 ∧ i = 1 ∨ a = 2 ∨ a = 78) → M1.2.1 a i = M.2.1 a i := fun a i z => F_n F (show ¬ (a = 77 ∧ (i = 2 ∨ i = 29) ∨ 90 ≤ a ∧ a ≤ 93) by omega) rfl
theorem tg_489 {M M1 : mm_M} (F : FR (fun a i : Nat => 6 ≤ a ∧ a ≤ 10) M M1) : ∀ a i : Nat, (a = 1 ∧ i = 1 ∨ a = 2 ∨ a = 78) → M1.2.1 a i = M.2.1 a i := fun a i z => F_n F (show ¬ (6 ≤ a ∧ a ≤ 10) by omega) rfl
theorem tg_490 {M M1 : mm_M} (F : FR (fun a i : Nat => a = 77 ∧ (i = 2 ∨ i = 29) ∨ 90 ≤ a ∧ a ≤ 93) M M1) : ∀ a i : Nat, a = 79 → M1.2.1 a i = M.2.1 a i := fun a i z => F_n F (show ¬ (a = 77 ∧ (i = 2 ∨ i = 29) ∨ 90 ≤ a ∧ a ≤ 93) by omega) rfl
theorem tg_491 {M M1 : mm_M} (F : FR (fun a i : Nat => 6 ≤ a ∧ a ≤ 10) M M1) : ∀ a i : Nat, a = 79 → M1.2.1 a i = M.2.1 a i := fun a i z => F_n F (show ¬ (6 ≤ a ∧ a ≤ 10) by omega) rfl
theorem tg_492 {M M1 : mm_M} (F : FR (fun a i : Nat => a = 77 ∧ (i = 2 ∨ i = 29) ∨ 90 ≤ a ∧ a ≤ 93) M M1) : ∀ a i : Nat, 88 ≤ a ∧ a ≤ 89 → M1.2.1 a i = M.2.1 a i := fun a i z => F_n F (show ¬ (a = 77 ∧ (i = 2 ∨ i = 29) ∨ 90 ≤ a ∧ a ≤ 93) by omega) rfl
theorem tg_493 {M M1 : mm_M} (F : FR (fun a i : Nat => 6 ≤ a ∧ a ≤ 10) M M1) : ∀ a i : Nat, 88 ≤ a ∧ a ≤ 89 → M1.2.1 a i = M.2.1 a i := fun a i z => F_n F (show ¬ (6 ≤ a ∧ a ≤ 10) by omega) rfl
theorem tg_494 : ∀ a i : Nat, (49 ≤ a ∧ a ≤ 66 ∨ a = 77 ∧ 11 ≤ i ∧ i ≤ 13 ∨ 80 ≤ a ∧ a ≤ 87 ∨ 6 ≤ a ∧ a ≤ 10 ∨ 90 ≤ a ∧ a ≤ 93 ∨ a = 0 ∧ i = 12) → ¬ (a = 77 ∧ (i = 1 ∨ i = 2) ∨ a = 78) := fun a i z => by omega
theorem tg_495 : ∀ a i : Nat, (49 ≤ a ∧ a ≤ 66 ∨ a = 77 ∧ 11 ≤ i ∧ i ≤ 13 ∨ 80 ≤ a ∧ a ≤ 87 ∨ 6 ≤ a ∧ a ≤ 10 ∨ 90 ≤ a ∧ a ≤ 93 ∨ a = 0 ∧ i = 12) → ¬ (a = 1 ∧ i = 1 ∨ a = 2) := fun a i z => by omega
theorem tg_496 : ∀ a i : Nat, (49 ≤ a ∧ a ≤ 66 ∨ a = 77 ∧ 11 ≤ i ∧ i ≤ 13 ∨ 80 ≤ a ∧ a ≤ 87 ∨ 6 ≤ a ∧ a ≤ 10 ∨ 90 ≤ a ∧ a ≤ 93 ∨ a = 0 ∧ i = 12) → ¬ (a = 77 ∧ (1 ≤ i ∧ i ≤ 2 ∨ 4 ≤ i ∧ i ≤ 10 ∨ 42 ≤ i ∧ i ≤ 44 ∨ i = 52) ∨ 94 ≤ a ∧ a ≤ 111) := fun a i z => by omega
theorem tg_497 : ∀ a i : Nat, (49 ≤ a ∧ a ≤ 66 ∨ a = 77 ∧ 11 ≤ i ∧ i ≤ 13 ∨ 80 ≤ a ∧ a ≤ 87 ∨ 6 ≤ a ∧ a ≤ 10 ∨ 90 ≤ a ∧ a ≤ 93 ∨ a = 0 ∧ i = 12) → ¬ (a = 1 ∨ 3 ≤ a ∧ a ≤ 5 ∨ 11 ≤ a ∧ a ≤ 16 ∨ 18 ≤ a ∧ a ≤ 48) := fun a i z => by omega
theorem tg_498 : ∀ a i : Nat, (49 ≤ a ∧ a ≤ 66 ∨ a = 77 ∧ 11 ≤ i ∧ i ≤ 13 ∨ 80 ≤ a ∧ a ≤ 87 ∨ 6 ≤ a ∧ a ≤ 10 ∨ 90 ≤ a ∧ a ≤ 93 ∨ a = 0 ∧ i = 12) → ¬ (a = 77 ∧ (1 ≤ i ∧ i ≤ 2 ∨ 4 ≤ i ∧ i ≤ 10 ∨ 57 ≤ i ∧ i ≤ 59 ∨ 65 ≤ i ∧ i ≤ 69) ∨ 112 ≤ a ∧ a ≤ 116) := fun a i z => by omega
theorem tg_499 : ∀ a i : Nat, (49 ≤ a ∧ a ≤ 66 ∨ a = 77 ∧ 11 ≤ i ∧ i ≤ 13 ∨ 80 ≤ a ∧ a ≤ 87 ∨ 6 ≤ a ∧ a ≤ 10 ∨ 90 ≤ a ∧ a ≤ 93 ∨ a = 0 ∧ i = 12) → ¬ (a = 77 ∧ i = 2) := fun a i z => by omega
theorem tg_500 : ∀ a i : Nat, (49 ≤ a ∧ a ≤ 66 ∨ a = 77 ∧ 11 ≤ i ∧ i ≤ 13 ∨ 80 ≤ a ∧ a ≤ 87 ∨ 6 ≤ a ∧ a ≤ 10 ∨ 90 ≤ a ∧ a ≤ 93 ∨ a = 0 ∧ i = 12) → ¬ (a < 0) := fun a i z => by omega
theorem tg_501 : ∀ a i : Nat, (49 ≤ a ∧ a ≤ 66 ∨ a = 77 ∧ 11 ≤ i ∧ i ≤ 13 ∨ 80 ≤ a ∧ a ≤ 87 ∨ 6 ≤ a ∧ a ≤ 10 ∨ 90 ≤ a ∧ a ≤ 93 ∨ a = 0 ∧ i = 12) → ¬ (a = 77 ∧ i = 2 ∨ 94 ≤ a ∧ a ≤ 98) := fun a i z => by omega
theorem tg_502 : ∀ a i : Nat, (49 ≤ a ∧ a ≤ 66 ∨ a = 77 ∧ 11 ≤ i ∧ i ≤ 13 ∨ 80 ≤ a ∧ a ≤ 87 ∨ 6 ≤ a ∧ a ≤ 10 ∨ 90 ≤ a ∧ a ≤ 93 ∨ a = 0 ∧ i = 12) → ¬ (11 ≤ a ∧ a ≤ 16 ∨ 18 ≤ a ∧ a ≤ 48 ∨ 67 ≤ a ∧ a ≤ 76) := fun a i z => by omega
theorem tg_503 : ∀ a i : Nat, (49 ≤ a ∧ a ≤ 66 ∨ a = 77 ∧ 11 ≤ i ∧ i ≤ 13 ∨ 80 ≤ a ∧ a ≤ 87 ∨ 6 ≤ a ∧ a ≤ 10 ∨ 90 ≤ a ∧ a ≤ 93 ∨ a = 0 ∧ i = 12) → ¬ (a = 77 ∧ (i = 2 ∨ i = 28) ∨ a = 99 ∨ a = 100) := fun a i z => by omega
set_option maxRecDepth 4000 in
set_option maxHeartbeats 0 in
theorem LW_0 {X : mm_X} {d L : Nat} {M : mm_M} {Q : Option Value → mm_M → Prop} {i : Int32} {u5 u6 : Value} (hX : g_X X) (hW : g_W X) (hW2 : g_W2 X) (hL : (X 0).1 = L) (h3 : L ≤ 3072) (hd : 40 ≤ d) (hi : 0 ≤ i.toInt) (hi2 : i.toInt + 6 ≤ (L : Int)) (H : LI9 M) (h : ∀ (M1 : mm_M) (v5 v6 : Value), LI9 M1 → M1.1.2.1 ≤ M.1.2.1 + 1 → M1.1.2.2.1 ≤ M.1.2.2.1 + 6 → mm_T X d 0 1314 [.ref mm_ext, .ref 0, .ref 77, .ref 125, .int i, v5, v6] [] M1 Q) : mm_T X d 0 176 [.ref mm_ext, .ref 0, .ref 77, .ref 125, .int i, u5, u6] [] M Q := by
  obtain ⟨⟨⟨⟨⟨⟨⟨⟨hG, ⟨jPI, jNI, jQI, jPQE⟩, ⟨jFA, jWC, jNJ, jPS, jKQ⟩, jJ, jE⟩, jTP, jW9⟩, jNE, jCC⟩, -⟩, jOV⟩, jW8⟩, jNN⟩, jAN⟩ := H
  have b_1 := g_b hG (a := 77) (i := 7) (lo := 0) (hi := 500) rfl rfl
  have b_2 := g_b hG (a := 77) (i := 6) (lo := 0) (hi := 500) rfl rfl
  have b_3 := g_b hG (a := 1) (i := 1) (lo := 0) (hi := 500) rfl rfl
  have b_4 := g_b hG (a := 77) (i := 1) (lo := 0) (hi := 500) rfl rfl
  have b_5 := g_b hG (a := 0) (i := 12) (lo := 0) (hi := 30) rfl rfl
  have b_6 := g_b hG (a := 77) (i := 28) (lo := 0) (hi := 30) rfl rfl
  have b_7 := g_b hG (a := 6) (i := 0) (lo := 0) (hi := 150) rfl rfl
  have b_8 := g_b hG (a := 77) (i := 29) (lo := 0) (hi := 150) rfl rfl
  refine to_an (pc := 176) rw_0_176 rfl (to_an (pc := 177) rw_0_177 rfl (to_i (pc := 178) rw_0_178 rfl (to_c (pc := 180) rw_0_180 (x := (1 : Int32)) rfl rfl (s_add (pc := 181) rw_0_181 (A := i.toInt) (B := 1) rfl rfl (by omega) (fun v9 e10 => s_x0 (pc := 182) rw_0_182 hL (A := v9.toInt) rfl (by omega) (by omega) (fun v11 e12 => to_an (pc := 183) rw_0_183 rfl (to_i (pc := 184) rw_0_184 rfl (to_c (pc := 186) rw_0_186 (x := (2 : Int32)) rfl rfl (s_add (pc := 187) rw_0_187 (A := i.toInt) (B := 2) rfl rfl (by omega) (fun v13 e14 => s_x0 (pc := 188) rw_0_188 hL (A := v13.toInt) rfl (by omega) (by omega) (fun v15 e16 => to_an (pc := 189) rw_0_189 rfl ?_)))))))))))
  refine to_i (pc := 190) rw_0_190 rfl (to_c (pc := 192) rw_0_192 (x := (3 : Int32)) rfl rfl (s_add (pc := 193) rw_0_193 (A := i.toInt) (B := 3) rfl rfl (by omega) (fun v17 e18 => s_x0 (pc := 194) rw_0_194 hL (A := v17.toInt) rfl (by omega) (by omega) (fun v19 e20 => to_an (pc := 195) rw_0_195 rfl (to_i (pc := 196) rw_0_196 rfl (to_c (pc := 198) rw_0_198 (x := (4 : Int32)) rfl rfl (s_add (pc := 199) rw_0_199 (A := i.toInt) (B := 4) rfl rfl (by omega) (fun v21 e22 => s_x0 (pc := 200) rw_0_200 hL (A := v21.toInt) rfl (by omega) (by omega) (fun v23 e24 => to_an (pc := 201) rw_0_201 rfl (to_i (pc := 202) rw_0_202 rfl (to_c (pc := 204) rw_0_204 (x := (5 : Int32)) rfl rfl ?_)))))))))))
  refine s_add (pc := 205) rw_0_205 (A := i.toInt) (B := 5) rfl rfl (by omega) (fun v25 e26 => s_x0 (pc := 206) rw_0_206 hL (A := v25.toInt) rfl (by omega) (by omega) (fun v27 e28 => s_v (pc := 207) rw_0_207 (dp0 hd (by decide)) (ls0 := [.ref 0, .int v11, .int v15, .int v19, .int v23, .int v27]) rfl (Nat.le_of_ble_eq_true rfl) (Nat.le_of_ble_eq_true rfl) rfl (to_rc rfl rfl rfl (g_o hG rfl)) rfl (E_110 hX (dp1 hd (by decide)) hG (a := v11) (b := v15) (c := v19) (x := v23) (e := v27) (fun r29 M35 hG31 F30 p_32 p_33 p_34 => ?_))))
  have n_36 : M35.1.2.1 = M.1.2.1 ∧ M35.1.2.2.1 = M.1.2.2.1 := by rw [F30.1]; exact ⟨rfl, rfl⟩
  have b_38 := g_b hG31 (a := 1) (i := 1) (lo := 0) (hi := 500) rfl rfl
  refine to_popi (pc := 210) rw_0_210 (to_an (pc := 211) rw_0_211 rfl (to_an (pc := 212) rw_0_212 rfl (to_i (pc := 213) rw_0_213 rfl (to_c (pc := 215) rw_0_215 (x := (1 : Int32)) rfl rfl (s_addk (pc := 216) rw_0_216 (A := i.toInt) (B := 1) rfl rfl (by omega) (v := v9) e10 (s_x0k (pc := 217) rw_0_217 hL (A := v9.toInt) rfl (by omega) (by omega) (v := v11) e12 (to_an (pc := 218) rw_0_218 rfl (to_i (pc := 219) rw_0_219 rfl (to_c (pc := 221) rw_0_221 (x := (2 : Int32)) rfl rfl (s_addk (pc := 222) rw_0_222 (A := i.toInt) (B := 2) rfl rfl (by omega) (v := v13) e14 (s_x0k (pc := 223) rw_0_223 hL (A := v13.toInt) rfl (by omega) (by omega) (v := v15) e16 ?_)))))))))))
  refine to_an (pc := 224) rw_0_224 rfl (to_i (pc := 225) rw_0_225 rfl (to_c (pc := 227) rw_0_227 (x := (3 : Int32)) rfl rfl (s_addk (pc := 228) rw_0_228 (A := i.toInt) (B := 3) rfl rfl (by omega) (v := v17) e18 (s_x0k (pc := 229) rw_0_229 hL (A := v17.toInt) rfl (by omega) (by omega) (v := v19) e20 (to_an (pc := 230) rw_0_230 rfl (to_i (pc := 231) rw_0_231 rfl (to_c (pc := 233) rw_0_233 (x := (4 : Int32)) rfl rfl (s_addk (pc := 234) rw_0_234 (A := i.toInt) (B := 4) rfl rfl (by omega) (v := v21) e22 (s_x0k (pc := 235) rw_0_235 hL (A := v21.toInt) rfl (by omega) (by omega) (v := v23) e24 (to_an (pc := 236) rw_0_236 rfl (to_i (pc := 237) rw_0_237 rfl ?_)))))))))))
  refine to_c (pc := 239) rw_0_239 (x := (5 : Int32)) rfl rfl (s_addk (pc := 240) rw_0_240 (A := i.toInt) (B := 5) rfl rfl (by omega) (v := v25) e26 (s_x0k (pc := 241) rw_0_241 hL (A := v25.toInt) rfl (by omega) (by omega) (v := v27) e28 (s_v (pc := 242) rw_0_242 (dp0 hd (by decide)) (ls0 := [.ref 77, .int v11, .int v15, .int v19, .int v23, .int v27, .null, .null]) rfl (Nat.le_of_ble_eq_true rfl) (Nat.le_of_ble_eq_true rfl) rfl (to_rc rfl rfl rfl (g_o hG31 rfl)) rfl ?_)))
  have c_49 : M35.2.1 77 1 = (M.2.1 77 1) := (F_n F30 (show ¬ (77 = 1 ∧ 1 = 1 ∨ 77 = 2) by decide) rfl)
  have t_50 : (M35.2.1 77 1).toInt = (M.2.1 77 1).toInt := congrArg Int32.toInt c_49
  refine E_148 hX (dp1 hd (by decide)) hG31 (a := v11) (b := v15) (c := v19) (x := v23) (e := v27) (fun r51 M57 hG53 F52 p_54 p_55 p_56 => ?_)
  have n_58 : M57.1.2.1 = M35.1.2.1 ∧ M57.1.2.2.1 = M35.1.2.2.1 := by rw [F52.1]; exact ⟨rfl, rfl⟩
  have b_60 := g_b hG53 (a := 77) (i := 1) (lo := 0) (hi := 500) rfl rfl
  have c_61 : M57.2.1 1 1 = (M35.2.1 1 1) := (F_n F52 (show ¬ (1 = 77 ∧ (1 = 1 ∨ 1 = 2) ∨ 1 = 78) by decide) rfl)
  have t_62 : (M57.2.1 1 1).toInt = (M35.2.1 1 1).toInt := congrArg Int32.toInt c_61
  have z_63 := TP_d jTP (by omega) (by omega) p_34 (by omega) (fun k => (F_n F30 (show ¬ (78 = 1 ∧ k = 1 ∨ 78 = 2) by omega) rfl)) (F_n F30 (show ¬ (77 = 1 ∧ 1 = 1 ∨ 77 = 2) by decide) rfl) p_56 (fun k => (F_n F52 (show ¬ (2 = 77 ∧ (k = 1 ∨ k = 2) ∨ 2 = 78) by omega) rfl))
  refine to_popi (pc := 245) rw_0_245 (to_go (pc := 246) rw_0_246 ?_)
  have c_64 : M57.2.1 77 7 = (M.2.1 77 7) := (F_n F52 (show ¬ (77 = 77 ∧ (7 = 1 ∨ 7 = 2) ∨ 77 = 78) by decide) (F_n F30 (show ¬ (77 = 1 ∧ 7 = 1 ∨ 77 = 2) by decide) rfl))
  have t_65 : (M57.2.1 77 7).toInt = (M.2.1 77 7).toInt := congrArg Int32.toInt c_64
  have c_66 : M57.2.1 77 6 = (M.2.1 77 6) := (F_n F52 (show ¬ (77 = 77 ∧ (6 = 1 ∨ 6 = 2) ∨ 77 = 78) by decide) (F_n F30 (show ¬ (77 = 1 ∧ 6 = 1 ∨ 77 = 2) by decide) rfl))
  have t_67 : (M57.2.1 77 6).toInt = (M.2.1 77 6).toInt := congrArg Int32.toInt c_66
  have c_68 : M57.2.1 0 12 = (M.2.1 0 12) := (F_n F52 (show ¬ (0 = 77 ∧ (12 = 1 ∨ 12 = 2) ∨ 0 = 78) by decide) (F_n F30 (show ¬ (0 = 1 ∧ 12 = 1 ∨ 0 = 2) by decide) rfl))
  have t_69 : (M57.2.1 0 12).toInt = (M.2.1 0 12).toInt := congrArg Int32.toInt c_68
  have c_70 : M57.2.1 77 28 = (M.2.1 77 28) := (F_n F52 (show ¬ (77 = 77 ∧ (28 = 1 ∨ 28 = 2) ∨ 77 = 78) by decide) (F_n F30 (show ¬ (77 = 1 ∧ 28 = 1 ∨ 77 = 2) by decide) rfl))
  have t_71 : (M57.2.1 77 28).toInt = (M.2.1 77 28).toInt := congrArg Int32.toInt c_70
  have c_72 : M57.2.1 17 4 = (M.2.1 17 4) := (F_n F52 (show ¬ (17 = 77 ∧ (4 = 1 ∨ 4 = 2) ∨ 17 = 78) by decide) (F_n F30 (show ¬ (17 = 1 ∧ 4 = 1 ∨ 17 = 2) by decide) rfl))
  have t_73 : (M57.2.1 17 4).toInt = (M.2.1 17 4).toInt := congrArg Int32.toInt c_72
  have c_74 : M57.2.1 77 41 = (M.2.1 77 41) := (F_n F52 (show ¬ (77 = 77 ∧ (41 = 1 ∨ 41 = 2) ∨ 77 = 78) by decide) (F_n F30 (show ¬ (77 = 1 ∧ 41 = 1 ∨ 77 = 2) by decide) rfl))
  have t_75 : (M57.2.1 77 41).toInt = (M.2.1 77 41).toInt := congrArg Int32.toInt c_74
  have c_76 : M57.2.1 6 0 = (M.2.1 6 0) := (F_n F52 (show ¬ (6 = 77 ∧ (0 = 1 ∨ 0 = 2) ∨ 6 = 78) by decide) (F_n F30 (show ¬ (6 = 1 ∧ 0 = 1 ∨ 6 = 2) by decide) rfl))
  have t_77 : (M57.2.1 6 0).toInt = (M.2.1 6 0).toInt := congrArg Int32.toInt c_76
  have c_78 : M57.2.1 77 29 = (M.2.1 77 29) := (F_n F52 (show ¬ (77 = 77 ∧ (29 = 1 ∨ 29 = 2) ∨ 77 = 78) by decide) (F_n F30 (show ¬ (77 = 1 ∧ 29 = 1 ∨ 77 = 2) by decide) rfl))
  have t_79 : (M57.2.1 77 29).toInt = (M.2.1 77 29).toInt := congrArg Int32.toInt c_78
  have j_80 := (PI_f (tg_363 F52) (PI_f (tg_364 F30) jPI))
  have j_81 := (NI_f (tg_365 F52) (NI_f (tg_366 F30) jNI))
  have j_82 := (QI_f (tg_367 F52) (QI_f (tg_368 F30) jQI))
  have j_83 := (PQE_r F52.2.1 (PQE_r F30.2.1 jPQE))
  have j_84 := (FA_f (tg_369 F52) (FA_f (tg_370 F30) jFA))
  have j_85 := (WC_f (tg_371 F52) (WC_f (tg_372 F30) jWC))
  have j_86 := (NJ_f (tg_373 F52) (NJ_f (tg_374 F30) jNJ))
  have j_87 := (PS_f (tg_375 F52) (PS_f (tg_376 F30) jPS))
  have j_88 := (KQ_f (tg_377 F52) (KQ_f (tg_378 F30) jKQ))
  have j_89 := (W9_f (tg_379 F52) (W9_f (tg_380 F30) jW9))
  have j_90 := (AN_F F52 tg_494 (AN_F F30 tg_495 jAN))
  have j_91 := (NE_r F52.2.1 (NE_r F30.2.1 jNE))
  have j_92 := (W8_f (tg_381 F52) (W8_f (tg_382 F30) jW8))
  exact h M57 (u5) (u6) ⟨⟨⟨⟨⟨⟨⟨⟨hG53, ⟨j_80, j_81, j_82, j_83⟩, ⟨j_84, j_85, j_86, j_87, j_88⟩, by omega, by omega⟩, z_63, j_89⟩, j_91, by omega⟩, AN_a j_90⟩, by omega⟩, j_92⟩, by omega⟩, j_90⟩ (by omega) (by omega)
set_option maxRecDepth 4000 in
set_option maxHeartbeats 0 in
theorem LW_1 {X : mm_X} {d L : Nat} {M : mm_M} {Q : Option Value → mm_M → Prop} {i : Int32} {u5 u6 : Value} (hX : g_X X) (hW : g_W X) (hW2 : g_W2 X) (hL : (X 0).1 = L) (h3 : L ≤ 3072) (hd : 40 ≤ d) (hi : 0 ≤ i.toInt) (hi2 : i.toInt + 6 ≤ (L : Int)) (H : LI9 M) (h : ∀ (M1 : mm_M) (v5 v6 : Value), LI9 M1 → M1.1.2.1 ≤ M.1.2.1 + 1 → M1.1.2.2.1 ≤ M.1.2.2.1 + 6 → mm_T X d 0 1314 [.ref mm_ext, .ref 0, .ref 77, .ref 125, .int i, v5, v6] [] M1 Q) : mm_T X d 0 249 [.ref mm_ext, .ref 0, .ref 77, .ref 125, .int i, u5, u6] [] M Q := by
  obtain ⟨⟨⟨⟨⟨⟨⟨⟨hG, ⟨jPI, jNI, jQI, jPQE⟩, ⟨jFA, jWC, jNJ, jPS, jKQ⟩, jJ, jE⟩, jTP, jW9⟩, jNE, jCC⟩, -⟩, jOV⟩, jW8⟩, jNN⟩, jAN⟩ := H
  have b_1 := g_b hG (a := 77) (i := 7) (lo := 0) (hi := 500) rfl rfl
  have b_2 := g_b hG (a := 77) (i := 6) (lo := 0) (hi := 500) rfl rfl
  have b_3 := g_b hG (a := 1) (i := 1) (lo := 0) (hi := 500) rfl rfl
  have b_4 := g_b hG (a := 77) (i := 1) (lo := 0) (hi := 500) rfl rfl
  have b_5 := g_b hG (a := 0) (i := 12) (lo := 0) (hi := 30) rfl rfl
  have b_6 := g_b hG (a := 77) (i := 28) (lo := 0) (hi := 30) rfl rfl
  have b_7 := g_b hG (a := 6) (i := 0) (lo := 0) (hi := 150) rfl rfl
  have b_8 := g_b hG (a := 77) (i := 29) (lo := 0) (hi := 150) rfl rfl
  refine to_an (pc := 249) rw_0_249 rfl (to_an (pc := 250) rw_0_250 rfl (to_i (pc := 251) rw_0_251 rfl (to_c (pc := 253) rw_0_253 (x := (1 : Int32)) rfl rfl (s_add (pc := 254) rw_0_254 (A := i.toInt) (B := 1) rfl rfl (by omega) (fun v9 e10 => s_x0 (pc := 255) rw_0_255 hL (A := v9.toInt) rfl (by omega) (by omega) (fun v11 e12 => s_v (pc := 256) rw_0_256 (dp0 hd (by decide)) (ls0 := [.ref 0, .int v11, .null]) rfl (Nat.le_of_ble_eq_true rfl) (Nat.le_of_ble_eq_true rfl) rfl (to_rc rfl rfl rfl (g_o hG rfl)) rfl ?_))))))
  obtain ⟨pz13, pzz13, qz13, qzz13, hpz13, hpzz13, hqz13, hqzz13, hpqz13⟩ := id jPQE
  obtain ⟨t, nn, hn1, hT1, hR1⟩ := TP_X (n := v11.toInt) jTP
  refine D_111 hX (dp1 hd (by decide)) hG hpz13 hpzz13 hqz13 hqzz13 hpqz13 jPI jNI jQI (by omega) hT1 hW (NE_p hpqz13 jNE) (n := v11) (t := t) (nn := nn) (p := pz13) (pz := pzz13) (q := qz13) (qz := qzz13) (fun r14 M32 hG16 F15 p_17 p_18 p_19 p_20 p_21 p_22 p_23 p_24 p_25 p_26 p_27 p_28 p_29 p_30 p_31 => ?_)
  have n_33 : M32.1.2.1 = M.1.2.1 ∧ M32.1.2.2.1 = M.1.2.2.1 := by rw [F15.1]; exact ⟨rfl, rfl⟩
  have b_35 := g_b hG16 (a := 1) (i := 1) (lo := 0) (hi := 500) rfl rfl
  have b_36 := g_b hG16 (a := 0) (i := 12) (lo := 0) (hi := 30) rfl rfl
  have b_37 := g_b hG16 (a := 6) (i := 0) (lo := 0) (hi := 150) rfl rfl
  have z_38 := TP_s jTP (by omega) (fun a i z => (Fx_n F15 (show ¬ (a ≤ 76 ∧ ¬ a = 2) by omega) rfl))
  refine to_popi (pc := 259) rw_0_259 (to_an (pc := 260) rw_0_260 rfl (to_an (pc := 261) rw_0_261 rfl (to_i (pc := 262) rw_0_262 rfl (to_c (pc := 264) rw_0_264 (x := (1 : Int32)) rfl rfl (s_addk (pc := 265) rw_0_265 (A := i.toInt) (B := 1) rfl rfl (by omega) (v := v9) e10 (s_x0k (pc := 266) rw_0_266 hL (A := v9.toInt) rfl (by omega) (by omega) (v := v11) e12 (s_v (pc := 267) rw_0_267 (dp0 hd (by decide)) (ls0 := [.ref 77, .int v11, .null]) rfl (Nat.le_of_ble_eq_true rfl) (Nat.le_of_ble_eq_true rfl) rfl (to_rc rfl rfl rfl (g_o hG16 rfl)) rfl ?_)))))))
  have c_41 : M32.2.1 77 1 = (M.2.1 77 1) := (Fx_n F15 (show ¬ (77 ≤ 76 ∧ ¬ 77 = 2) by decide) rfl)
  have t_42 : (M32.2.1 77 1).toInt = (M.2.1 77 1).toInt := congrArg Int32.toInt c_41
  have c_43 : M32.2.1 77 28 = (M.2.1 77 28) := (Fx_n F15 (show ¬ (77 ≤ 76 ∧ ¬ 77 = 2) by decide) rfl)
  have t_44 : (M32.2.1 77 28).toInt = (M.2.1 77 28).toInt := congrArg Int32.toInt c_43
  have c_45 : M32.2.1 77 29 = (M.2.1 77 29) := (Fx_n F15 (show ¬ (77 ≤ 76 ∧ ¬ 77 = 2) by decide) rfl)
  have t_46 : (M32.2.1 77 29).toInt = (M.2.1 77 29).toInt := congrArg Int32.toInt c_45
  have c_47 : M32.2.1 77 41 = (M.2.1 77 41) := (Fx_n F15 (show ¬ (77 ≤ 76 ∧ ¬ 77 = 2) by decide) rfl)
  have t_48 : (M32.2.1 77 41).toInt = (M.2.1 77 41).toInt := congrArg Int32.toInt c_47
  have c_49 : M32.2.1 77 7 = (M.2.1 77 7) := (Fx_n F15 (show ¬ (77 ≤ 76 ∧ ¬ 77 = 2) by decide) rfl)
  have t_50 : (M32.2.1 77 7).toInt = (M.2.1 77 7).toInt := congrArg Int32.toInt c_49
  have c_51 : M32.2.1 77 6 = (M.2.1 77 6) := (Fx_n F15 (show ¬ (77 ≤ 76 ∧ ¬ 77 = 2) by decide) rfl)
  have t_52 : (M32.2.1 77 6).toInt = (M.2.1 77 6).toInt := congrArg Int32.toInt c_51
  have j_53 := (FA_f (tg_383 F15) jFA)
  have j_54 := (WC_f (tg_384 F15) jWC)
  have j_55 := (NJ_f (tg_385 F15) jNJ)
  have j_56 := (PS_f (tg_386 F15) jPS)
  have j_57 := (KQ_f (tg_387 F15) jKQ)
  have j_58 := (TR_f (tg_388 F15) hR1)
  have j_59 := (W9_f (tg_389 F15) jW9)
  refine D_173 hX (dp1 hd (by decide)) hG16 (by omega) j_53 j_54 j_55 j_56 j_57 (by omega) j_58 j_59 (n := v11) (t := t) (nn := nn) (fun r60 M78 hG62 F61 p_63 p_64 p_65 p_66 p_67 p_68 p_69 p_70 p_71 p_72 p_73 p_74 p_75 p_76 p_77 => ?_)
  have n_79 : M78.1.2.1 = M32.1.2.1 ∧ M78.1.2.2.1 = M32.1.2.2.1 := by rw [F61.1]; exact ⟨rfl, rfl⟩
  have b_81 := g_b hG62 (a := 77) (i := 7) (lo := 0) (hi := 500) rfl rfl
  have b_82 := g_b hG62 (a := 77) (i := 6) (lo := 0) (hi := 500) rfl rfl
  have b_83 := g_b hG62 (a := 77) (i := 1) (lo := 0) (hi := 500) rfl rfl
  have b_84 := g_b hG62 (a := 77) (i := 28) (lo := 0) (hi := 30) rfl rfl
  have b_85 := g_b hG62 (a := 77) (i := 29) (lo := 0) (hi := 150) rfl rfl
  have z_86 := PAN_q (h1 := (M.2.1 1 1).toInt) (h2 := (M32.2.1 77 1).toInt) (by omega) p_23 p_71 p_24 p_72
  have z_87 := AN_p jAN hpqz13 z_86 p_28 p_29 F15 (fun a i z => show ¬ (a ≤ 76 ∧ ¬ a = 2) by omega) F61 (fun a i z => show ¬ (a = 77 ∨ 79 < a ∧ a ≤ 87 ∨ a = 100) by omega) p_76 p_77 p_31 (fun z => by omega)
  refine to_popi (pc := 270) rw_0_270 (to_go (pc := 271) rw_0_271 ?_)
  have c_88 : M78.2.1 1 1 = (M32.2.1 1 1) := (F_n F61 (show ¬ (1 = 77 ∨ 79 < 1 ∧ 1 ≤ 87 ∨ 1 = 100) by decide) rfl)
  have t_89 : (M78.2.1 1 1).toInt = (M32.2.1 1 1).toInt := congrArg Int32.toInt c_88
  have c_90 : M78.2.1 0 12 = (M32.2.1 0 12) := (F_n F61 (show ¬ (0 = 77 ∨ 79 < 0 ∧ 0 ≤ 87 ∨ 0 = 100) by decide) rfl)
  have t_91 : (M78.2.1 0 12).toInt = (M32.2.1 0 12).toInt := congrArg Int32.toInt c_90
  have c_92 : M78.2.1 17 4 = (M32.2.1 17 4) := (F_n F61 (show ¬ (17 = 77 ∨ 79 < 17 ∧ 17 ≤ 87 ∨ 17 = 100) by decide) rfl)
  have t_93 : (M78.2.1 17 4).toInt = (M32.2.1 17 4).toInt := congrArg Int32.toInt c_92
  have c_94 : M78.2.1 6 0 = (M32.2.1 6 0) := (F_n F61 (show ¬ (6 = 77 ∨ 79 < 6 ∧ 6 ≤ 87 ∨ 6 = 100) by decide) rfl)
  have t_95 : (M78.2.1 6 0).toInt = (M32.2.1 6 0).toInt := congrArg Int32.toInt c_94
  have j_96 := (PI_f (tg_390 F61) p_19)
  have j_97 := (NI_f (tg_391 F61) p_21)
  have j_98 := (QI_f (tg_392 F61) p_22)
  have j_99 := (PQE_r F61.2.1 (PQE_pp hpz13 hpzz13 hqz13 hqzz13 p_20))
  have j_100 := (TP_f (tg_393 F61) z_38)
  have j_101 := (W9_f (tg_394 F61) j_59)
  have j_102 := (NE_r F61.2.1 p_30)
  have j_103 := (W8_f (tg_395 F61) (W8_f (tg_396 F15) jW8))
  exact h M78 (u5) (u6) ⟨⟨⟨⟨⟨⟨⟨⟨hG62, ⟨j_96, j_97, j_98, j_99⟩, ⟨p_64, p_65, p_66, p_67, p_68⟩, by omega, by omega⟩, j_100, j_101⟩, j_102, by omega⟩, AN_a z_87⟩, by omega⟩, j_103⟩, by omega⟩, z_87⟩ (by omega) (by omega)
set_option maxRecDepth 4000 in
set_option maxHeartbeats 0 in
theorem LW_2 {X : mm_X} {d L : Nat} {M : mm_M} {Q : Option Value → mm_M → Prop} {i : Int32} {u5 u6 : Value} (hX : g_X X) (hW : g_W X) (hW2 : g_W2 X) (hL : (X 0).1 = L) (h3 : L ≤ 3072) (hd : 40 ≤ d) (hi : 0 ≤ i.toInt) (hi2 : i.toInt + 6 ≤ (L : Int)) (H : LI9 M) (h : ∀ (M1 : mm_M) (v5 v6 : Value), LI9 M1 → M1.1.2.1 ≤ M.1.2.1 + 1 → M1.1.2.2.1 ≤ M.1.2.2.1 + 6 → mm_T X d 0 1314 [.ref mm_ext, .ref 0, .ref 77, .ref 125, .int i, v5, v6] [] M1 Q) : mm_T X d 0 274 [.ref mm_ext, .ref 0, .ref 77, .ref 125, .int i, u5, u6] [] M Q := by
  obtain ⟨⟨⟨⟨⟨⟨⟨⟨hG, ⟨jPI, jNI, jQI, jPQE⟩, ⟨jFA, jWC, jNJ, jPS, jKQ⟩, jJ, jE⟩, jTP, jW9⟩, jNE, jCC⟩, -⟩, jOV⟩, jW8⟩, jNN⟩, jAN⟩ := H
  have b_1 := g_b hG (a := 77) (i := 7) (lo := 0) (hi := 500) rfl rfl
  have b_2 := g_b hG (a := 77) (i := 6) (lo := 0) (hi := 500) rfl rfl
  have b_3 := g_b hG (a := 1) (i := 1) (lo := 0) (hi := 500) rfl rfl
  have b_4 := g_b hG (a := 77) (i := 1) (lo := 0) (hi := 500) rfl rfl
  have b_5 := g_b hG (a := 0) (i := 12) (lo := 0) (hi := 30) rfl rfl
  have b_6 := g_b hG (a := 77) (i := 28) (lo := 0) (hi := 30) rfl rfl
  have b_7 := g_b hG (a := 6) (i := 0) (lo := 0) (hi := 150) rfl rfl
  have b_8 := g_b hG (a := 77) (i := 29) (lo := 0) (hi := 150) rfl rfl
  refine to_an (pc := 274) rw_0_274 rfl (to_an (pc := 275) rw_0_275 rfl (to_i (pc := 276) rw_0_276 rfl (to_c (pc := 278) rw_0_278 (x := (1 : Int32)) rfl rfl (s_add (pc := 279) rw_0_279 (A := i.toInt) (B := 1) rfl rfl (by omega) (fun v9 e10 => s_x0 (pc := 280) rw_0_280 hL (A := v9.toInt) rfl (by omega) (by omega) (fun v11 e12 => s_v (pc := 281) rw_0_281 (dp0 hd (by decide)) (ls0 := [.ref 0, .int v11]) rfl (Nat.le_of_ble_eq_true rfl) (Nat.le_of_ble_eq_true rfl) rfl (to_rc rfl rfl rfl (g_o hG rfl)) rfl ?_))))))
  obtain ⟨pz13, pzz13, qz13, qzz13, hpz13, hpzz13, hqz13, hqzz13, hpqz13⟩ := id jPQE
  refine C_112 hX (dp1 hd (by decide)) hG hpz13 hpzz13 hqz13 hqzz13 hpqz13 jNI jPI jQI (n := v11) (p := pz13) (pz := pzz13) (q := qz13) (qz := qzz13) (fun r14 M22 hG16 F15 p_17 p_18 p_19 p_20 p_21 => ?_)
  have n_23 : M22.1.2.1 = M.1.2.1 ∧ M22.1.2.2.1 = M.1.2.2.1 := by rw [F15.1]; exact ⟨rfl, rfl⟩
  have b_25 := g_b hG16 (a := 1) (i := 1) (lo := 0) (hi := 500) rfl rfl
  have z_26 := TP_s jTP (by omega) (fun a i z => (F_n F15 (show ¬ (a = 1 ∨ 3 ≤ a ∧ a ≤ 5 ∨ 11 ≤ a ∧ a ≤ 16 ∨ 18 ≤ a ∧ a ≤ 48) by omega) rfl))
  refine to_popi (pc := 284) rw_0_284 (to_an (pc := 285) rw_0_285 rfl (to_an (pc := 286) rw_0_286 rfl (to_i (pc := 287) rw_0_287 rfl (to_c (pc := 289) rw_0_289 (x := (1 : Int32)) rfl rfl (s_addk (pc := 290) rw_0_290 (A := i.toInt) (B := 1) rfl rfl (by omega) (v := v9) e10 (s_x0k (pc := 291) rw_0_291 hL (A := v9.toInt) rfl (by omega) (by omega) (v := v11) e12 (s_v (pc := 292) rw_0_292 (dp0 hd (by decide)) (ls0 := [.ref 77, .int v11]) rfl (Nat.le_of_ble_eq_true rfl) (Nat.le_of_ble_eq_true rfl) rfl (to_rc rfl rfl rfl (g_o hG16 rfl)) rfl ?_)))))))
  have c_29 : M22.2.1 77 1 = (M.2.1 77 1) := (F_n F15 (show ¬ (77 = 1 ∨ 3 ≤ 77 ∧ 77 ≤ 5 ∨ 11 ≤ 77 ∧ 77 ≤ 16 ∨ 18 ≤ 77 ∧ 77 ≤ 48) by decide) rfl)
  have t_30 : (M22.2.1 77 1).toInt = (M.2.1 77 1).toInt := congrArg Int32.toInt c_29
  have c_31 : M22.2.1 77 7 = (M.2.1 77 7) := (F_n F15 (show ¬ (77 = 1 ∨ 3 ≤ 77 ∧ 77 ≤ 5 ∨ 11 ≤ 77 ∧ 77 ≤ 16 ∨ 18 ≤ 77 ∧ 77 ≤ 48) by decide) rfl)
  have t_32 : (M22.2.1 77 7).toInt = (M.2.1 77 7).toInt := congrArg Int32.toInt c_31
  have c_33 : M22.2.1 77 6 = (M.2.1 77 6) := (F_n F15 (show ¬ (77 = 1 ∨ 3 ≤ 77 ∧ 77 ≤ 5 ∨ 11 ≤ 77 ∧ 77 ≤ 16 ∨ 18 ≤ 77 ∧ 77 ≤ 48) by decide) rfl)
  have t_34 : (M22.2.1 77 6).toInt = (M.2.1 77 6).toInt := congrArg Int32.toInt c_33
  have j_35 := (FA_f (tg_397 F15) jFA)
  have j_36 := (WC_f (tg_398 F15) jWC)
  have j_37 := (NJ_f (tg_399 F15) jNJ)
  have j_38 := (PS_f (tg_400 F15) jPS)
  have j_39 := (KQ_f (tg_401 F15) jKQ)
  refine C_219 hX (dp1 hd (by decide)) hG16 (by omega) j_35 j_36 j_37 j_38 j_39 (n := v11) (fun r40 M51 hG42 F41 p_43 p_44 p_45 p_46 p_47 p_48 p_49 p_50 => ?_)
  have n_52 : M51.1.2.1 = M22.1.2.1 ∧ M51.1.2.2.1 = M22.1.2.2.1 := by rw [F41.1]; exact ⟨rfl, rfl⟩
  have b_54 := g_b hG42 (a := 77) (i := 7) (lo := 0) (hi := 500) rfl rfl
  have b_55 := g_b hG42 (a := 77) (i := 6) (lo := 0) (hi := 500) rfl rfl
  have b_56 := g_b hG42 (a := 77) (i := 1) (lo := 0) (hi := 500) rfl rfl
  refine to_popi (pc := 295) rw_0_295 (to_go (pc := 296) rw_0_296 ?_)
  have c_57 : M51.2.1 1 1 = (M22.2.1 1 1) := (F_n F41 (show ¬ (1 = 77 ∧ (1 ≤ 1 ∧ 1 ≤ 2 ∨ 4 ≤ 1 ∧ 1 ≤ 10 ∨ 42 ≤ 1 ∧ 1 ≤ 44 ∨ 1 = 52) ∨ 94 ≤ 1 ∧ 1 ≤ 111) by decide) rfl)
  have t_58 : (M51.2.1 1 1).toInt = (M22.2.1 1 1).toInt := congrArg Int32.toInt c_57
  have c_59 : M51.2.1 0 12 = (M.2.1 0 12) := (F_n F41 (show ¬ (0 = 77 ∧ (1 ≤ 12 ∧ 12 ≤ 2 ∨ 4 ≤ 12 ∧ 12 ≤ 10 ∨ 42 ≤ 12 ∧ 12 ≤ 44 ∨ 12 = 52) ∨ 94 ≤ 0 ∧ 0 ≤ 111) by decide) (F_n F15 (show ¬ (0 = 1 ∨ 3 ≤ 0 ∧ 0 ≤ 5 ∨ 11 ≤ 0 ∧ 0 ≤ 16 ∨ 18 ≤ 0 ∧ 0 ≤ 48) by decide) rfl))
  have t_60 : (M51.2.1 0 12).toInt = (M.2.1 0 12).toInt := congrArg Int32.toInt c_59
  have c_61 : M51.2.1 77 28 = (M.2.1 77 28) := (F_n F41 (show ¬ (77 = 77 ∧ (1 ≤ 28 ∧ 28 ≤ 2 ∨ 4 ≤ 28 ∧ 28 ≤ 10 ∨ 42 ≤ 28 ∧ 28 ≤ 44 ∨ 28 = 52) ∨ 94 ≤ 77 ∧ 77 ≤ 111) by decide) (F_n F15 (show ¬ (77 = 1 ∨ 3 ≤ 77 ∧ 77 ≤ 5 ∨ 11 ≤ 77 ∧ 77 ≤ 16 ∨ 18 ≤ 77 ∧ 77 ≤ 48) by decide) rfl))
  have t_62 : (M51.2.1 77 28).toInt = (M.2.1 77 28).toInt := congrArg Int32.toInt c_61
  have c_63 : M51.2.1 17 4 = (M.2.1 17 4) := (F_n F41 (show ¬ (17 = 77 ∧ (1 ≤ 4 ∧ 4 ≤ 2 ∨ 4 ≤ 4 ∧ 4 ≤ 10 ∨ 42 ≤ 4 ∧ 4 ≤ 44 ∨ 4 = 52) ∨ 94 ≤ 17 ∧ 17 ≤ 111) by decide) (F_n F15 (show ¬ (17 = 1 ∨ 3 ≤ 17 ∧ 17 ≤ 5 ∨ 11 ≤ 17 ∧ 17 ≤ 16 ∨ 18 ≤ 17 ∧ 17 ≤ 48) by decide) rfl))
  have t_64 : (M51.2.1 17 4).toInt = (M.2.1 17 4).toInt := congrArg Int32.toInt c_63
  have c_65 : M51.2.1 77 41 = (M.2.1 77 41) := (F_n F41 (show ¬ (77 = 77 ∧ (1 ≤ 41 ∧ 41 ≤ 2 ∨ 4 ≤ 41 ∧ 41 ≤ 10 ∨ 42 ≤ 41 ∧ 41 ≤ 44 ∨ 41 = 52) ∨ 94 ≤ 77 ∧ 77 ≤ 111) by decide) (F_n F15 (show ¬ (77 = 1 ∨ 3 ≤ 77 ∧ 77 ≤ 5 ∨ 11 ≤ 77 ∧ 77 ≤ 16 ∨ 18 ≤ 77 ∧ 77 ≤ 48) by decide) rfl))
  have t_66 : (M51.2.1 77 41).toInt = (M.2.1 77 41).toInt := congrArg Int32.toInt c_65
  have c_67 : M51.2.1 6 0 = (M.2.1 6 0) := (F_n F41 (show ¬ (6 = 77 ∧ (1 ≤ 0 ∧ 0 ≤ 2 ∨ 4 ≤ 0 ∧ 0 ≤ 10 ∨ 42 ≤ 0 ∧ 0 ≤ 44 ∨ 0 = 52) ∨ 94 ≤ 6 ∧ 6 ≤ 111) by decide) (F_n F15 (show ¬ (6 = 1 ∨ 3 ≤ 6 ∧ 6 ≤ 5 ∨ 11 ≤ 6 ∧ 6 ≤ 16 ∨ 18 ≤ 6 ∧ 6 ≤ 48) by decide) rfl))
  have t_68 : (M51.2.1 6 0).toInt = (M.2.1 6 0).toInt := congrArg Int32.toInt c_67
  have c_69 : M51.2.1 77 29 = (M.2.1 77 29) := (F_n F41 (show ¬ (77 = 77 ∧ (1 ≤ 29 ∧ 29 ≤ 2 ∨ 4 ≤ 29 ∧ 29 ≤ 10 ∨ 42 ≤ 29 ∧ 29 ≤ 44 ∨ 29 = 52) ∨ 94 ≤ 77 ∧ 77 ≤ 111) by decide) (F_n F15 (show ¬ (77 = 1 ∨ 3 ≤ 77 ∧ 77 ≤ 5 ∨ 11 ≤ 77 ∧ 77 ≤ 16 ∨ 18 ≤ 77 ∧ 77 ≤ 48) by decide) rfl))
  have t_70 : (M51.2.1 77 29).toInt = (M.2.1 77 29).toInt := congrArg Int32.toInt c_69
  have j_71 := (PI_f (tg_402 F41) p_19)
  have j_72 := (NI_f (tg_403 F41) p_20)
  have j_73 := (QI_f (tg_404 F41) p_21)
  have j_74 := (PQE_r F41.2.1 (PQE_r F15.2.1 jPQE))
  have j_75 := (TP_f (tg_405 F41) z_26)
  have j_76 := (W9_f (tg_406 F41) (W9_f (tg_407 F15) jW9))
  have j_77 := (AN_F F41 tg_496 (AN_F F15 tg_497 jAN))
  have j_78 := (NE_r F41.2.1 (NE_r F15.2.1 jNE))
  have j_79 := (W8_f (tg_408 F41) (W8_f (tg_409 F15) jW8))
  exact h M51 (u5) (u6) ⟨⟨⟨⟨⟨⟨⟨⟨hG42, ⟨j_71, j_72, j_73, j_74⟩, ⟨p_44, p_45, p_46, p_47, p_48⟩, by omega, by omega⟩, j_75, j_76⟩, j_78, by omega⟩, AN_a j_77⟩, by omega⟩, j_79⟩, by omega⟩, j_77⟩ (by omega) (by omega)
set_option maxRecDepth 4000 in
set_option maxHeartbeats 0 in
theorem LW_3 {X : mm_X} {d L : Nat} {M : mm_M} {Q : Option Value → mm_M → Prop} {i : Int32} {u5 u6 : Value} (hX : g_X X) (hW : g_W X) (hW2 : g_W2 X) (hL : (X 0).1 = L) (h3 : L ≤ 3072) (hd : 40 ≤ d) (hi : 0 ≤ i.toInt) (hi2 : i.toInt + 6 ≤ (L : Int)) (H : LI9 M) (h : ∀ (M1 : mm_M) (v5 v6 : Value), LI9 M1 → M1.1.2.1 ≤ M.1.2.1 + 1 → M1.1.2.2.1 ≤ M.1.2.2.1 + 6 → mm_T X d 0 1314 [.ref mm_ext, .ref 0, .ref 77, .ref 125, .int i, v5, v6] [] M1 Q) : mm_T X d 0 299 [.ref mm_ext, .ref 0, .ref 77, .ref 125, .int i, u5, u6] [] M Q := by
  obtain ⟨⟨⟨⟨⟨⟨⟨⟨hG, ⟨jPI, jNI, jQI, jPQE⟩, ⟨jFA, jWC, jNJ, jPS, jKQ⟩, jJ, jE⟩, jTP, jW9⟩, jNE, jCC⟩, -⟩, jOV⟩, jW8⟩, jNN⟩, jAN⟩ := H
  have b_1 := g_b hG (a := 77) (i := 7) (lo := 0) (hi := 500) rfl rfl
  have b_2 := g_b hG (a := 77) (i := 6) (lo := 0) (hi := 500) rfl rfl
  have b_3 := g_b hG (a := 1) (i := 1) (lo := 0) (hi := 500) rfl rfl
  have b_4 := g_b hG (a := 77) (i := 1) (lo := 0) (hi := 500) rfl rfl
  have b_5 := g_b hG (a := 0) (i := 12) (lo := 0) (hi := 30) rfl rfl
  have b_6 := g_b hG (a := 77) (i := 28) (lo := 0) (hi := 30) rfl rfl
  have b_7 := g_b hG (a := 6) (i := 0) (lo := 0) (hi := 150) rfl rfl
  have b_8 := g_b hG (a := 77) (i := 29) (lo := 0) (hi := 150) rfl rfl
  refine to_an (pc := 299) rw_0_299 rfl (to_an (pc := 300) rw_0_300 rfl (to_i (pc := 301) rw_0_301 rfl (to_c (pc := 303) rw_0_303 (x := (1 : Int32)) rfl rfl (s_add (pc := 304) rw_0_304 (A := i.toInt) (B := 1) rfl rfl (by omega) (fun v9 e10 => s_x0 (pc := 305) rw_0_305 hL (A := v9.toInt) rfl (by omega) (by omega) (fun v11 e12 => s_v (pc := 306) rw_0_306 (dp0 hd (by decide)) (ls0 := [.ref 0, .int v11, .null]) rfl (Nat.le_of_ble_eq_true rfl) (Nat.le_of_ble_eq_true rfl) rfl (to_rc rfl rfl rfl (g_o hG rfl)) rfl ?_))))))
  obtain ⟨pz13, pzz13, qz13, qzz13, hpz13, hpzz13, hqz13, hqzz13, hpqz13⟩ := id jPQE
  refine C_113 hX (dp1 hd (by decide)) hG hpz13 hpzz13 hqz13 hqzz13 hpqz13 jQI jPI jNI (n := v11) (p := pz13) (pz := pzz13) (q := qz13) (qz := qzz13) (fun r14 M23 hG16 F15 p_17 p_18 p_19 p_20 p_21 p_22 => ?_)
  have n_24 : M23.1.2.1 = M.1.2.1 ∧ M23.1.2.2.1 = M.1.2.2.1 := by rw [F15.1]; exact ⟨rfl, rfl⟩
  have b_26 := g_b hG16 (a := 1) (i := 1) (lo := 0) (hi := 500) rfl rfl
  have z_27 := TP_s jTP (by omega) (fun a i z => (Fx_n F15 (show ¬ (a = 1 ∨ 3 ≤ a ∧ a ≤ 5 ∨ 67 ≤ a ∧ a ≤ 76) by omega) rfl))
  have z_28 := AN_X F15 (fun a i z => show ¬ (a = 1 ∨ 3 ≤ a ∧ a ≤ 5 ∨ 67 ≤ a ∧ a ≤ 76) by omega) (QQ_8 hpqz13 p_20) jAN
  refine to_popi (pc := 309) rw_0_309 (to_an (pc := 310) rw_0_310 rfl (to_an (pc := 311) rw_0_311 rfl (to_i (pc := 312) rw_0_312 rfl (to_c (pc := 314) rw_0_314 (x := (1 : Int32)) rfl rfl (s_addk (pc := 315) rw_0_315 (A := i.toInt) (B := 1) rfl rfl (by omega) (v := v9) e10 (s_x0k (pc := 316) rw_0_316 hL (A := v9.toInt) rfl (by omega) (by omega) (v := v11) e12 (s_v (pc := 317) rw_0_317 (dp0 hd (by decide)) (ls0 := [.ref 77, .int v11, .null]) rfl (Nat.le_of_ble_eq_true rfl) (Nat.le_of_ble_eq_true rfl) rfl (to_rc rfl rfl rfl (g_o hG16 rfl)) rfl ?_)))))))
  have c_31 : M23.2.1 77 1 = (M.2.1 77 1) := (Fx_n F15 (show ¬ (77 = 1 ∨ 3 ≤ 77 ∧ 77 ≤ 5 ∨ 67 ≤ 77 ∧ 77 ≤ 76) by decide) rfl)
  have t_32 : (M23.2.1 77 1).toInt = (M.2.1 77 1).toInt := congrArg Int32.toInt c_31
  have c_33 : M23.2.1 77 7 = (M.2.1 77 7) := (Fx_n F15 (show ¬ (77 = 1 ∨ 3 ≤ 77 ∧ 77 ≤ 5 ∨ 67 ≤ 77 ∧ 77 ≤ 76) by decide) rfl)
  have t_34 : (M23.2.1 77 7).toInt = (M.2.1 77 7).toInt := congrArg Int32.toInt c_33
  have c_35 : M23.2.1 77 6 = (M.2.1 77 6) := (Fx_n F15 (show ¬ (77 = 1 ∨ 3 ≤ 77 ∧ 77 ≤ 5 ∨ 67 ≤ 77 ∧ 77 ≤ 76) by decide) rfl)
  have t_36 : (M23.2.1 77 6).toInt = (M.2.1 77 6).toInt := congrArg Int32.toInt c_35
  have j_37 := (FA_f (tg_410 F15) jFA)
  have j_38 := (WC_f (tg_411 F15) jWC)
  have j_39 := (NJ_f (tg_412 F15) jNJ)
  have j_40 := (PS_f (tg_413 F15) jPS)
  have j_41 := (KQ_f (tg_414 F15) jKQ)
  refine C_227 hX (dp1 hd (by decide)) hG16 (by omega) j_37 j_38 j_39 j_40 j_41 (n := v11) (fun r42 M53 hG44 F43 p_45 p_46 p_47 p_48 p_49 p_50 p_51 p_52 => ?_)
  have n_54 : M53.1.2.1 = M23.1.2.1 ∧ M53.1.2.2.1 = M23.1.2.2.1 := by rw [F43.1]; exact ⟨rfl, rfl⟩
  have b_56 := g_b hG44 (a := 77) (i := 7) (lo := 0) (hi := 500) rfl rfl
  have b_57 := g_b hG44 (a := 77) (i := 6) (lo := 0) (hi := 500) rfl rfl
  have b_58 := g_b hG44 (a := 77) (i := 1) (lo := 0) (hi := 500) rfl rfl
  refine to_popi (pc := 320) rw_0_320 (to_go (pc := 321) rw_0_321 ?_)
  have c_59 : M53.2.1 1 1 = (M23.2.1 1 1) := (F_n F43 (show ¬ (1 = 77 ∧ (1 ≤ 1 ∧ 1 ≤ 2 ∨ 4 ≤ 1 ∧ 1 ≤ 10 ∨ 57 ≤ 1 ∧ 1 ≤ 59 ∨ 65 ≤ 1 ∧ 1 ≤ 69) ∨ 112 ≤ 1 ∧ 1 ≤ 116) by decide) rfl)
  have t_60 : (M53.2.1 1 1).toInt = (M23.2.1 1 1).toInt := congrArg Int32.toInt c_59
  have c_61 : M53.2.1 0 12 = (M.2.1 0 12) := (F_n F43 (show ¬ (0 = 77 ∧ (1 ≤ 12 ∧ 12 ≤ 2 ∨ 4 ≤ 12 ∧ 12 ≤ 10 ∨ 57 ≤ 12 ∧ 12 ≤ 59 ∨ 65 ≤ 12 ∧ 12 ≤ 69) ∨ 112 ≤ 0 ∧ 0 ≤ 116) by decide) (Fx_n F15 (show ¬ (0 = 1 ∨ 3 ≤ 0 ∧ 0 ≤ 5 ∨ 67 ≤ 0 ∧ 0 ≤ 76) by decide) rfl))
  have t_62 : (M53.2.1 0 12).toInt = (M.2.1 0 12).toInt := congrArg Int32.toInt c_61
  have c_63 : M53.2.1 77 28 = (M.2.1 77 28) := (F_n F43 (show ¬ (77 = 77 ∧ (1 ≤ 28 ∧ 28 ≤ 2 ∨ 4 ≤ 28 ∧ 28 ≤ 10 ∨ 57 ≤ 28 ∧ 28 ≤ 59 ∨ 65 ≤ 28 ∧ 28 ≤ 69) ∨ 112 ≤ 77 ∧ 77 ≤ 116) by decide) (Fx_n F15 (show ¬ (77 = 1 ∨ 3 ≤ 77 ∧ 77 ≤ 5 ∨ 67 ≤ 77 ∧ 77 ≤ 76) by decide) rfl))
  have t_64 : (M53.2.1 77 28).toInt = (M.2.1 77 28).toInt := congrArg Int32.toInt c_63
  have c_65 : M53.2.1 17 4 = (M.2.1 17 4) := (F_n F43 (show ¬ (17 = 77 ∧ (1 ≤ 4 ∧ 4 ≤ 2 ∨ 4 ≤ 4 ∧ 4 ≤ 10 ∨ 57 ≤ 4 ∧ 4 ≤ 59 ∨ 65 ≤ 4 ∧ 4 ≤ 69) ∨ 112 ≤ 17 ∧ 17 ≤ 116) by decide) (Fx_n F15 (show ¬ (17 = 1 ∨ 3 ≤ 17 ∧ 17 ≤ 5 ∨ 67 ≤ 17 ∧ 17 ≤ 76) by decide) rfl))
  have t_66 : (M53.2.1 17 4).toInt = (M.2.1 17 4).toInt := congrArg Int32.toInt c_65
  have c_67 : M53.2.1 77 41 = (M.2.1 77 41) := (F_n F43 (show ¬ (77 = 77 ∧ (1 ≤ 41 ∧ 41 ≤ 2 ∨ 4 ≤ 41 ∧ 41 ≤ 10 ∨ 57 ≤ 41 ∧ 41 ≤ 59 ∨ 65 ≤ 41 ∧ 41 ≤ 69) ∨ 112 ≤ 77 ∧ 77 ≤ 116) by decide) (Fx_n F15 (show ¬ (77 = 1 ∨ 3 ≤ 77 ∧ 77 ≤ 5 ∨ 67 ≤ 77 ∧ 77 ≤ 76) by decide) rfl))
  have t_68 : (M53.2.1 77 41).toInt = (M.2.1 77 41).toInt := congrArg Int32.toInt c_67
  have c_69 : M53.2.1 6 0 = (M.2.1 6 0) := (F_n F43 (show ¬ (6 = 77 ∧ (1 ≤ 0 ∧ 0 ≤ 2 ∨ 4 ≤ 0 ∧ 0 ≤ 10 ∨ 57 ≤ 0 ∧ 0 ≤ 59 ∨ 65 ≤ 0 ∧ 0 ≤ 69) ∨ 112 ≤ 6 ∧ 6 ≤ 116) by decide) (Fx_n F15 (show ¬ (6 = 1 ∨ 3 ≤ 6 ∧ 6 ≤ 5 ∨ 67 ≤ 6 ∧ 6 ≤ 76) by decide) rfl))
  have t_70 : (M53.2.1 6 0).toInt = (M.2.1 6 0).toInt := congrArg Int32.toInt c_69
  have c_71 : M53.2.1 77 29 = (M.2.1 77 29) := (F_n F43 (show ¬ (77 = 77 ∧ (1 ≤ 29 ∧ 29 ≤ 2 ∨ 4 ≤ 29 ∧ 29 ≤ 10 ∨ 57 ≤ 29 ∧ 29 ≤ 59 ∨ 65 ≤ 29 ∧ 29 ≤ 69) ∨ 112 ≤ 77 ∧ 77 ≤ 116) by decide) (Fx_n F15 (show ¬ (77 = 1 ∨ 3 ≤ 77 ∧ 77 ≤ 5 ∨ 67 ≤ 77 ∧ 77 ≤ 76) by decide) rfl))
  have t_72 : (M53.2.1 77 29).toInt = (M.2.1 77 29).toInt := congrArg Int32.toInt c_71
  have j_73 := (PI_f (tg_415 F43) p_21)
  have j_74 := (NI_f (tg_416 F43) p_22)
  have j_75 := (QI_f (tg_417 F43) p_19)
  have j_76 := (PQE_r F43.2.1 (PQE_qq hpz13 hpzz13 hqz13 hqzz13 p_20))
  have j_77 := (TP_f (tg_418 F43) z_27)
  have j_78 := (W9_f (tg_419 F43) (W9_f (tg_420 F15) jW9))
  have j_79 := (AN_F F43 tg_498 z_28)
  have j_80 := (NE_r F43.2.1 (NE_q hpqz13 p_20 jNE))
  have j_81 := (W8_f (tg_421 F43) (W8_f (tg_422 F15) jW8))
  exact h M53 (u5) (u6) ⟨⟨⟨⟨⟨⟨⟨⟨hG44, ⟨j_73, j_74, j_75, j_76⟩, ⟨p_46, p_47, p_48, p_49, p_50⟩, by omega, by omega⟩, j_77, j_78⟩, j_80, by omega⟩, AN_a j_79⟩, by omega⟩, j_81⟩, by omega⟩, j_79⟩ (by omega) (by omega)
set_option maxRecDepth 4000 in
set_option maxHeartbeats 0 in
theorem LW_4 {X : mm_X} {d L : Nat} {M : mm_M} {Q : Option Value → mm_M → Prop} {i : Int32} {u5 u6 : Value} (hX : g_X X) (hW : g_W X) (hW2 : g_W2 X) (hL : (X 0).1 = L) (h3 : L ≤ 3072) (hd : 40 ≤ d) (hi : 0 ≤ i.toInt) (hi2 : i.toInt + 6 ≤ (L : Int)) (H : LI9 M) (h : ∀ (M1 : mm_M) (v5 v6 : Value), LI9 M1 → M1.1.2.1 ≤ M.1.2.1 + 1 → M1.1.2.2.1 ≤ M.1.2.2.1 + 6 → mm_T X d 0 1314 [.ref mm_ext, .ref 0, .ref 77, .ref 125, .int i, v5, v6] [] M1 Q) : mm_T X d 0 324 [.ref mm_ext, .ref 0, .ref 77, .ref 125, .int i, u5, u6] [] M Q := by
  obtain ⟨⟨⟨⟨⟨⟨⟨⟨hG, ⟨jPI, jNI, jQI, jPQE⟩, ⟨jFA, jWC, jNJ, jPS, jKQ⟩, jJ, jE⟩, jTP, jW9⟩, jNE, jCC⟩, -⟩, jOV⟩, jW8⟩, jNN⟩, jAN⟩ := H
  have b_1 := g_b hG (a := 77) (i := 7) (lo := 0) (hi := 500) rfl rfl
  have b_2 := g_b hG (a := 77) (i := 6) (lo := 0) (hi := 500) rfl rfl
  have b_3 := g_b hG (a := 1) (i := 1) (lo := 0) (hi := 500) rfl rfl
  have b_4 := g_b hG (a := 77) (i := 1) (lo := 0) (hi := 500) rfl rfl
  have b_5 := g_b hG (a := 0) (i := 12) (lo := 0) (hi := 30) rfl rfl
  have b_6 := g_b hG (a := 77) (i := 28) (lo := 0) (hi := 30) rfl rfl
  have b_7 := g_b hG (a := 6) (i := 0) (lo := 0) (hi := 150) rfl rfl
  have b_8 := g_b hG (a := 77) (i := 29) (lo := 0) (hi := 150) rfl rfl
  refine to_an (pc := 324) rw_0_324 rfl (to_an (pc := 325) rw_0_325 rfl (to_i (pc := 326) rw_0_326 rfl (to_c (pc := 328) rw_0_328 (x := (1 : Int32)) rfl rfl (s_add (pc := 329) rw_0_329 (A := i.toInt) (B := 1) rfl rfl (by omega) (fun v9 e10 => s_x0 (pc := 330) rw_0_330 hL (A := v9.toInt) rfl (by omega) (by omega) (fun v11 e12 => s_v (pc := 331) rw_0_331 (dp0 hd (by decide)) (ls0 := [.ref 0, .int v11]) rfl (Nat.le_of_ble_eq_true rfl) (Nat.le_of_ble_eq_true rfl) rfl (to_rc rfl rfl rfl (g_o hG rfl)) rfl ?_))))))
  obtain ⟨pz13, pzz13, qz13, qzz13, hpz13, hpzz13, hqz13, hqzz13, hpqz13⟩ := id jPQE
  refine C_114 hX (dp1 hd (by decide)) hG hpz13 hpzz13 hqz13 hqzz13 hpqz13 (w := v11) (p := pz13) (pz := pzz13) (q := qz13) (qz := qzz13) (fun r14 M17 hG16 F15 => ?_)
  have n_18 : M17.1.2.1 = M.1.2.1 ∧ M17.1.2.2.1 = M.1.2.2.1 := by rw [F15.1]; exact ⟨rfl, rfl⟩
  refine to_popi (pc := 334) rw_0_334 (to_an (pc := 335) rw_0_335 rfl (to_an (pc := 336) rw_0_336 rfl (to_i (pc := 337) rw_0_337 rfl (to_c (pc := 339) rw_0_339 (x := (1 : Int32)) rfl rfl (s_addk (pc := 340) rw_0_340 (A := i.toInt) (B := 1) rfl rfl (by omega) (v := v9) e10 (s_x0k (pc := 341) rw_0_341 hL (A := v9.toInt) rfl (by omega) (by omega) (v := v11) e12 (s_v (pc := 342) rw_0_342 (dp0 hd (by decide)) (ls0 := [.ref 77, .int v11]) rfl (Nat.le_of_ble_eq_true rfl) (Nat.le_of_ble_eq_true rfl) rfl (to_rc rfl rfl rfl (g_o hG16 rfl)) rfl (C_174 hX (dp1 hd (by decide)) hG16 (w := v11) (fun r22 M25 hG24 F23 => ?_)))))))))
  have n_26 : M25.1.2.1 = M17.1.2.1 ∧ M25.1.2.2.1 = M17.1.2.2.1 := by rw [F23.1]; exact ⟨rfl, rfl⟩
  refine to_popi (pc := 345) rw_0_345 (to_go (pc := 346) rw_0_346 ?_)
  have c_28 : M25.2.1 77 7 = (M.2.1 77 7) := (F_n F23 (show ¬ (77 = 77 ∧ 7 = 2) by decide) (F_n F15 (show ¬ (77 < 0) by decide) rfl))
  have t_29 : (M25.2.1 77 7).toInt = (M.2.1 77 7).toInt := congrArg Int32.toInt c_28
  have c_30 : M25.2.1 77 6 = (M.2.1 77 6) := (F_n F23 (show ¬ (77 = 77 ∧ 6 = 2) by decide) (F_n F15 (show ¬ (77 < 0) by decide) rfl))
  have t_31 : (M25.2.1 77 6).toInt = (M.2.1 77 6).toInt := congrArg Int32.toInt c_30
  have c_32 : M25.2.1 1 1 = (M.2.1 1 1) := (F_n F23 (show ¬ (1 = 77 ∧ 1 = 2) by decide) (F_n F15 (show ¬ (1 < 0) by decide) rfl))
  have t_33 : (M25.2.1 1 1).toInt = (M.2.1 1 1).toInt := congrArg Int32.toInt c_32
  have c_34 : M25.2.1 77 1 = (M.2.1 77 1) := (F_n F23 (show ¬ (77 = 77 ∧ 1 = 2) by decide) (F_n F15 (show ¬ (77 < 0) by decide) rfl))
  have t_35 : (M25.2.1 77 1).toInt = (M.2.1 77 1).toInt := congrArg Int32.toInt c_34
  have c_36 : M25.2.1 0 12 = (M.2.1 0 12) := (F_n F23 (show ¬ (0 = 77 ∧ 12 = 2) by decide) (F_n F15 (show ¬ (0 < 0) by decide) rfl))
  have t_37 : (M25.2.1 0 12).toInt = (M.2.1 0 12).toInt := congrArg Int32.toInt c_36
  have c_38 : M25.2.1 77 28 = (M.2.1 77 28) := (F_n F23 (show ¬ (77 = 77 ∧ 28 = 2) by decide) (F_n F15 (show ¬ (77 < 0) by decide) rfl))
  have t_39 : (M25.2.1 77 28).toInt = (M.2.1 77 28).toInt := congrArg Int32.toInt c_38
  have c_40 : M25.2.1 17 4 = (M.2.1 17 4) := (F_n F23 (show ¬ (17 = 77 ∧ 4 = 2) by decide) (F_n F15 (show ¬ (17 < 0) by decide) rfl))
  have t_41 : (M25.2.1 17 4).toInt = (M.2.1 17 4).toInt := congrArg Int32.toInt c_40
  have c_42 : M25.2.1 77 41 = (M.2.1 77 41) := (F_n F23 (show ¬ (77 = 77 ∧ 41 = 2) by decide) (F_n F15 (show ¬ (77 < 0) by decide) rfl))
  have t_43 : (M25.2.1 77 41).toInt = (M.2.1 77 41).toInt := congrArg Int32.toInt c_42
  have c_44 : M25.2.1 6 0 = (M.2.1 6 0) := (F_n F23 (show ¬ (6 = 77 ∧ 0 = 2) by decide) (F_n F15 (show ¬ (6 < 0) by decide) rfl))
  have t_45 : (M25.2.1 6 0).toInt = (M.2.1 6 0).toInt := congrArg Int32.toInt c_44
  have c_46 : M25.2.1 77 29 = (M.2.1 77 29) := (F_n F23 (show ¬ (77 = 77 ∧ 29 = 2) by decide) (F_n F15 (show ¬ (77 < 0) by decide) rfl))
  have t_47 : (M25.2.1 77 29).toInt = (M.2.1 77 29).toInt := congrArg Int32.toInt c_46
  have j_48 := (PI_f (tg_423 F23) (PI_f (tg_99 F15) jPI))
  have j_49 := (NI_f (tg_424 F23) (NI_f (tg_98 F15) jNI))
  have j_50 := (QI_f (tg_425 F23) (QI_f (tg_100 F15) jQI))
  have j_51 := (PQE_r F23.2.1 (PQE_r F15.2.1 jPQE))
  have j_52 := (FA_f (tg_426 F23) (FA_f (tg_218 F15) jFA))
  have j_53 := (WC_f (tg_427 F23) (WC_f (tg_428 F15) jWC))
  have j_54 := (NJ_f (tg_429 F23) (NJ_f (tg_102 F15) jNJ))
  have j_55 := (PS_f (tg_430 F23) (PS_f (tg_431 F15) jPS))
  have j_56 := (KQ_f (tg_432 F23) (KQ_f (tg_343 F15) jKQ))
  have j_57 := (TP_f (tg_433 F23) (TP_f (tg_434 F15) jTP))
  have j_58 := (W9_f (tg_435 F23) (W9_f (tg_46 F15) jW9))
  have j_59 := (AN_F F23 tg_499 (AN_F F15 tg_500 jAN))
  have j_60 := (NE_r F23.2.1 (NE_r F15.2.1 jNE))
  have j_61 := (W8_f (tg_436 F23) (W8_f (tg_437 F15) jW8))
  exact h M25 (u5) (u6) ⟨⟨⟨⟨⟨⟨⟨⟨hG24, ⟨j_48, j_49, j_50, j_51⟩, ⟨j_52, j_53, j_54, j_55, j_56⟩, by omega, by omega⟩, j_57, j_58⟩, j_60, by omega⟩, AN_a j_59⟩, by omega⟩, j_61⟩, by omega⟩, j_59⟩ (by omega) (by omega)
set_option maxRecDepth 4000 in
set_option maxHeartbeats 0 in
theorem LW_5 {X : mm_X} {d L : Nat} {M : mm_M} {Q : Option Value → mm_M → Prop} {i : Int32} {u5 u6 : Value} (hX : g_X X) (hW : g_W X) (hW2 : g_W2 X) (hL : (X 0).1 = L) (h3 : L ≤ 3072) (hd : 40 ≤ d) (hi : 0 ≤ i.toInt) (hi2 : i.toInt + 6 ≤ (L : Int)) (H : LI9 M) (h : ∀ (M1 : mm_M) (v5 v6 : Value), LI9 M1 → M1.1.2.1 ≤ M.1.2.1 + 1 → M1.1.2.2.1 ≤ M.1.2.2.1 + 6 → mm_T X d 0 1314 [.ref mm_ext, .ref 0, .ref 77, .ref 125, .int i, v5, v6] [] M1 Q) : mm_T X d 0 349 [.ref mm_ext, .ref 0, .ref 77, .ref 125, .int i, u5, u6] [] M Q := by
  obtain ⟨⟨⟨⟨⟨⟨⟨⟨hG, ⟨jPI, jNI, jQI, jPQE⟩, ⟨jFA, jWC, jNJ, jPS, jKQ⟩, jJ, jE⟩, jTP, jW9⟩, jNE, jCC⟩, -⟩, jOV⟩, jW8⟩, jNN⟩, jAN⟩ := H
  have b_1 := g_b hG (a := 77) (i := 7) (lo := 0) (hi := 500) rfl rfl
  have b_2 := g_b hG (a := 77) (i := 6) (lo := 0) (hi := 500) rfl rfl
  have b_3 := g_b hG (a := 1) (i := 1) (lo := 0) (hi := 500) rfl rfl
  have b_4 := g_b hG (a := 77) (i := 1) (lo := 0) (hi := 500) rfl rfl
  have b_5 := g_b hG (a := 0) (i := 12) (lo := 0) (hi := 30) rfl rfl
  have b_6 := g_b hG (a := 77) (i := 28) (lo := 0) (hi := 30) rfl rfl
  have b_7 := g_b hG (a := 6) (i := 0) (lo := 0) (hi := 150) rfl rfl
  have b_8 := g_b hG (a := 77) (i := 29) (lo := 0) (hi := 150) rfl rfl
  refine to_an (pc := 349) rw_0_349 rfl (to_an (pc := 350) rw_0_350 rfl (to_i (pc := 351) rw_0_351 rfl (to_c (pc := 353) rw_0_353 (x := (1 : Int32)) rfl rfl (s_add (pc := 354) rw_0_354 (A := i.toInt) (B := 1) rfl rfl (by omega) (fun v9 e10 => s_x0 (pc := 355) rw_0_355 hL (A := v9.toInt) rfl (by omega) (by omega) (fun v11 e12 => to_an (pc := 356) rw_0_356 rfl (to_i (pc := 357) rw_0_357 rfl (to_c (pc := 359) rw_0_359 (x := (2 : Int32)) rfl rfl (s_add (pc := 360) rw_0_360 (A := i.toInt) (B := 2) rfl rfl (by omega) (fun v13 e14 => s_x0 (pc := 361) rw_0_361 hL (A := v13.toInt) rfl (by omega) (by omega) (fun v15 e16 => s_v (pc := 362) rw_0_362 (dp0 hd (by decide)) (ls0 := [.ref 0, .int v11, .int v15]) rfl (Nat.le_of_ble_eq_true rfl) (Nat.le_of_ble_eq_true rfl) rfl (to_rc rfl rfl rfl (g_o hG rfl)) rfl ?_)))))))))))
  obtain ⟨pz17, pzz17, qz17, qzz17, hpz17, hpzz17, hqz17, hqzz17, hpqz17⟩ := id jPQE
  obtain ⟨sg, NN, nz, ca, hs1, hs2, hn1, hn2, hn3, hn4, hn5⟩ := AN_u jAN hpqz17
  refine E_115 hX (dp1 hd (by decide)) hG hpz17 hpzz17 hqz17 hqzz17 hpqz17 hs1.1 (w := v11) (l := v15) (sg := sg) (p := pz17) (pz := pzz17) (q := qz17) (qz := qzz17) (fun r18 M24 hG20 F19 p_21 p_22 p_23 => ?_)
  have n_25 : M24.1.2.1 = M.1.2.1 ∧ M24.1.2.2.1 = M.1.2.2.1 := by rw [F19.1]; exact ⟨rfl, rfl⟩
  refine to_popi (pc := 365) rw_0_365 (to_an (pc := 366) rw_0_366 rfl (to_an (pc := 367) rw_0_367 rfl (to_i (pc := 368) rw_0_368 rfl (to_c (pc := 370) rw_0_370 (x := (1 : Int32)) rfl rfl (s_addk (pc := 371) rw_0_371 (A := i.toInt) (B := 1) rfl rfl (by omega) (v := v9) e10 (s_x0k (pc := 372) rw_0_372 hL (A := v9.toInt) rfl (by omega) (by omega) (v := v11) e12 (to_an (pc := 373) rw_0_373 rfl (to_i (pc := 374) rw_0_374 rfl (to_c (pc := 376) rw_0_376 (x := (2 : Int32)) rfl rfl (s_addk (pc := 377) rw_0_377 (A := i.toInt) (B := 2) rfl rfl (by omega) (v := v13) e14 (s_x0k (pc := 378) rw_0_378 hL (A := v13.toInt) rfl (by omega) (by omega) (v := v15) e16 ?_)))))))))))
  refine s_v (pc := 379) rw_0_379 (dp0 hd (by decide)) (ls0 := [.ref 77, .int v11, .int v15]) rfl (Nat.le_of_ble_eq_true rfl) (Nat.le_of_ble_eq_true rfl) rfl (to_rc rfl rfl rfl (g_o hG20 rfl)) rfl ?_
  have j_31 := (PLk_f (tg_101 F19) hs2.1)
  refine E_177 hX (dp1 hd (by decide)) hG20 j_31 (w := v11) (l := v15) (sg := sg) (fun r32 M38 hG34 F33 p_35 p_36 p_37 => ?_)
  have n_39 : M38.1.2.1 = M24.1.2.1 ∧ M38.1.2.2.1 = M24.1.2.2.1 := by rw [F33.1]; exact ⟨rfl, rfl⟩
  refine to_popi (pc := 382) rw_0_382 (to_go (pc := 383) rw_0_383 ?_)
  have c_41 : M38.2.1 77 7 = (M.2.1 77 7) := (F_n F33 (show ¬ (77 = 77 ∧ 7 = 2) by decide) (F_n F19 (show ¬ (77 < 0) by decide) rfl))
  have t_42 : (M38.2.1 77 7).toInt = (M.2.1 77 7).toInt := congrArg Int32.toInt c_41
  have c_43 : M38.2.1 77 6 = (M.2.1 77 6) := (F_n F33 (show ¬ (77 = 77 ∧ 6 = 2) by decide) (F_n F19 (show ¬ (77 < 0) by decide) rfl))
  have t_44 : (M38.2.1 77 6).toInt = (M.2.1 77 6).toInt := congrArg Int32.toInt c_43
  have c_45 : M38.2.1 1 1 = (M.2.1 1 1) := (F_n F33 (show ¬ (1 = 77 ∧ 1 = 2) by decide) (F_n F19 (show ¬ (1 < 0) by decide) rfl))
  have t_46 : (M38.2.1 1 1).toInt = (M.2.1 1 1).toInt := congrArg Int32.toInt c_45
  have c_47 : M38.2.1 77 1 = (M.2.1 77 1) := (F_n F33 (show ¬ (77 = 77 ∧ 1 = 2) by decide) (F_n F19 (show ¬ (77 < 0) by decide) rfl))
  have t_48 : (M38.2.1 77 1).toInt = (M.2.1 77 1).toInt := congrArg Int32.toInt c_47
  have c_49 : M38.2.1 0 12 = (M.2.1 0 12) := (F_n F33 (show ¬ (0 = 77 ∧ 12 = 2) by decide) (F_n F19 (show ¬ (0 < 0) by decide) rfl))
  have t_50 : (M38.2.1 0 12).toInt = (M.2.1 0 12).toInt := congrArg Int32.toInt c_49
  have c_51 : M38.2.1 77 28 = (M.2.1 77 28) := (F_n F33 (show ¬ (77 = 77 ∧ 28 = 2) by decide) (F_n F19 (show ¬ (77 < 0) by decide) rfl))
  have t_52 : (M38.2.1 77 28).toInt = (M.2.1 77 28).toInt := congrArg Int32.toInt c_51
  have c_53 : M38.2.1 17 4 = (M.2.1 17 4) := (F_n F33 (show ¬ (17 = 77 ∧ 4 = 2) by decide) (F_n F19 (show ¬ (17 < 0) by decide) rfl))
  have t_54 : (M38.2.1 17 4).toInt = (M.2.1 17 4).toInt := congrArg Int32.toInt c_53
  have c_55 : M38.2.1 77 41 = (M.2.1 77 41) := (F_n F33 (show ¬ (77 = 77 ∧ 41 = 2) by decide) (F_n F19 (show ¬ (77 < 0) by decide) rfl))
  have t_56 : (M38.2.1 77 41).toInt = (M.2.1 77 41).toInt := congrArg Int32.toInt c_55
  have c_57 : M38.2.1 6 0 = (M.2.1 6 0) := (F_n F33 (show ¬ (6 = 77 ∧ 0 = 2) by decide) (F_n F19 (show ¬ (6 < 0) by decide) rfl))
  have t_58 : (M38.2.1 6 0).toInt = (M.2.1 6 0).toInt := congrArg Int32.toInt c_57
  have c_59 : M38.2.1 77 29 = (M.2.1 77 29) := (F_n F33 (show ¬ (77 = 77 ∧ 29 = 2) by decide) (F_n F19 (show ¬ (77 < 0) by decide) rfl))
  have t_60 : (M38.2.1 77 29).toInt = (M.2.1 77 29).toInt := congrArg Int32.toInt c_59
  have j_61 := (PI_f (tg_423 F33) (PI_f (tg_99 F19) jPI))
  have j_62 := (NI_f (tg_424 F33) (NI_f (tg_98 F19) jNI))
  have j_63 := (QI_f (tg_425 F33) (QI_f (tg_100 F19) jQI))
  have j_64 := (PQE_r F33.2.1 (PQE_r F19.2.1 jPQE))
  have j_65 := (FA_f (tg_426 F33) (FA_f (tg_218 F19) jFA))
  have j_66 := (WC_f (tg_427 F33) (WC_f (tg_428 F19) jWC))
  have j_67 := (NJ_f (tg_429 F33) (NJ_f (tg_102 F19) jNJ))
  have j_68 := (PS_f (tg_430 F33) (PS_f (tg_431 F19) jPS))
  have j_69 := (KQ_f (tg_432 F33) (KQ_f (tg_343 F19) jKQ))
  have j_70 := (TP_f (tg_433 F33) (TP_f (tg_434 F19) jTP))
  have j_71 := (W9_f (tg_435 F33) (W9_f (tg_46 F19) jW9))
  have j_72 := (AN_F F33 tg_499 (AN_F F19 tg_500 jAN))
  have j_73 := (NE_r F33.2.1 (NE_r F19.2.1 jNE))
  have j_74 := (W8_f (tg_436 F33) (W8_f (tg_437 F19) jW8))
  exact h M38 (u5) (u6) ⟨⟨⟨⟨⟨⟨⟨⟨hG34, ⟨j_61, j_62, j_63, j_64⟩, ⟨j_65, j_66, j_67, j_68, j_69⟩, by omega, by omega⟩, j_70, j_71⟩, j_73, by omega⟩, AN_a j_72⟩, by omega⟩, j_74⟩, by omega⟩, j_72⟩ (by omega) (by omega)
set_option maxRecDepth 4000 in
set_option maxHeartbeats 0 in
theorem LW_6 {X : mm_X} {d L : Nat} {M : mm_M} {Q : Option Value → mm_M → Prop} {i : Int32} {u5 u6 : Value} (hX : g_X X) (hW : g_W X) (hW2 : g_W2 X) (hL : (X 0).1 = L) (h3 : L ≤ 3072) (hd : 40 ≤ d) (hi : 0 ≤ i.toInt) (hi2 : i.toInt + 6 ≤ (L : Int)) (H : LI9 M) (h : ∀ (M1 : mm_M) (v5 v6 : Value), LI9 M1 → M1.1.2.1 ≤ M.1.2.1 + 1 → M1.1.2.2.1 ≤ M.1.2.2.1 + 6 → mm_T X d 0 1314 [.ref mm_ext, .ref 0, .ref 77, .ref 125, .int i, v5, v6] [] M1 Q) : mm_T X d 0 386 [.ref mm_ext, .ref 0, .ref 77, .ref 125, .int i, u5, u6] [] M Q := by
  obtain ⟨⟨⟨⟨⟨⟨⟨⟨hG, ⟨jPI, jNI, jQI, jPQE⟩, ⟨jFA, jWC, jNJ, jPS, jKQ⟩, jJ, jE⟩, jTP, jW9⟩, jNE, jCC⟩, -⟩, jOV⟩, jW8⟩, jNN⟩, jAN⟩ := H
  have b_1 := g_b hG (a := 77) (i := 7) (lo := 0) (hi := 500) rfl rfl
  have b_2 := g_b hG (a := 77) (i := 6) (lo := 0) (hi := 500) rfl rfl
  have b_3 := g_b hG (a := 1) (i := 1) (lo := 0) (hi := 500) rfl rfl
  have b_4 := g_b hG (a := 77) (i := 1) (lo := 0) (hi := 500) rfl rfl
  have b_5 := g_b hG (a := 0) (i := 12) (lo := 0) (hi := 30) rfl rfl
  have b_6 := g_b hG (a := 77) (i := 28) (lo := 0) (hi := 30) rfl rfl
  have b_7 := g_b hG (a := 6) (i := 0) (lo := 0) (hi := 150) rfl rfl
  have b_8 := g_b hG (a := 77) (i := 29) (lo := 0) (hi := 150) rfl rfl
  refine to_an (pc := 386) rw_0_386 rfl (to_an (pc := 387) rw_0_387 rfl (to_i (pc := 388) rw_0_388 rfl (to_c (pc := 390) rw_0_390 (x := (1 : Int32)) rfl rfl (s_add (pc := 391) rw_0_391 (A := i.toInt) (B := 1) rfl rfl (by omega) (fun v9 e10 => s_x0 (pc := 392) rw_0_392 hL (A := v9.toInt) rfl (by omega) (by omega) (fun v11 e12 => to_an (pc := 393) rw_0_393 rfl (to_i (pc := 394) rw_0_394 rfl (to_c (pc := 396) rw_0_396 (x := (2 : Int32)) rfl rfl (s_add (pc := 397) rw_0_397 (A := i.toInt) (B := 2) rfl rfl (by omega) (fun v13 e14 => s_x0 (pc := 398) rw_0_398 hL (A := v13.toInt) rfl (by omega) (by omega) (fun v15 e16 => to_an (pc := 399) rw_0_399 rfl ?_)))))))))))
  obtain ⟨sg, hs1, hs2⟩ := (AN_a jAN)
  refine s_lkE (pc := 400) rw_0_400 (by omega) rfl hG hs1 (fun r17 M22 hG18 K19 K20 K21 n_a n_b lk_1 lk_2 lk_4 lk_3 => to_is (pc := 403) rw_0_403 (ls2 := [.ref mm_ext, .ref 0, .ref 77, .ref 125, .int i, .int r17, u6]) rfl rfl (to_an (pc := 405) rw_0_405 rfl (to_an (pc := 406) rw_0_406 rfl (to_i (pc := 407) rw_0_407 rfl (to_c (pc := 409) rw_0_409 (x := (1 : Int32)) rfl rfl (s_addk (pc := 410) rw_0_410 (A := i.toInt) (B := 1) rfl rfl (by omega) (v := v9) e10 (s_x0k (pc := 411) rw_0_411 hL (A := v9.toInt) rfl (by omega) (by omega) (v := v11) e12 (to_an (pc := 412) rw_0_412 rfl (to_i (pc := 413) rw_0_413 rfl (to_c (pc := 415) rw_0_415 (x := (2 : Int32)) rfl rfl (s_addk (pc := 416) rw_0_416 (A := i.toInt) (B := 2) rfl rfl (by omega) (v := v13) e14 ?_)))))))))))
  refine s_x0k (pc := 417) rw_0_417 hL (A := v13.toInt) rfl (by omega) (by omega) (v := v15) e16 (s_v (pc := 418) rw_0_418 (dp0 hd (by decide)) (ls0 := [.ref 77, .int v11, .int v15]) rfl (Nat.le_of_ble_eq_true rfl) (Nat.le_of_ble_eq_true rfl) rfl (to_rc rfl rfl rfl (g_o hG18 rfl)) rfl ?_)
  have j_27 := (PLk_f (fun a i z => K_n K19 rfl) hs2.1)
  refine E_182 hX (dp1 hd (by decide)) hG18 j_27 (f := v11) (w := v15) (sg := sg) (fun r28 M34 hG30 F29 p_31 p_32 p_33 => ?_)
  have n_35 : M34.1.2.1 = M22.1.2.1 ∧ M34.1.2.2.1 = M22.1.2.2.1 := by rw [F29.1]; exact ⟨rfl, rfl⟩
  refine to_is (pc := 421) rw_0_421 (ls2 := [.ref mm_ext, .ref 0, .ref 77, .ref 125, .int i, .int r17, .int r28]) rfl rfl (to_go (pc := 423) rw_0_423 ?_)
  have c_37 : M34.2.1 77 7 = (M.2.1 77 7) := (F_n F29 (show ¬ (77 = 77 ∧ 7 = 2) by decide) (K_n K19 rfl))
  have t_38 : (M34.2.1 77 7).toInt = (M.2.1 77 7).toInt := congrArg Int32.toInt c_37
  have c_39 : M34.2.1 77 6 = (M.2.1 77 6) := (F_n F29 (show ¬ (77 = 77 ∧ 6 = 2) by decide) (K_n K19 rfl))
  have t_40 : (M34.2.1 77 6).toInt = (M.2.1 77 6).toInt := congrArg Int32.toInt c_39
  have c_41 : M34.2.1 1 1 = (M.2.1 1 1) := (F_n F29 (show ¬ (1 = 77 ∧ 1 = 2) by decide) (K_n K19 rfl))
  have t_42 : (M34.2.1 1 1).toInt = (M.2.1 1 1).toInt := congrArg Int32.toInt c_41
  have c_43 : M34.2.1 77 1 = (M.2.1 77 1) := (F_n F29 (show ¬ (77 = 77 ∧ 1 = 2) by decide) (K_n K19 rfl))
  have t_44 : (M34.2.1 77 1).toInt = (M.2.1 77 1).toInt := congrArg Int32.toInt c_43
  have c_45 : M34.2.1 0 12 = (M.2.1 0 12) := (F_n F29 (show ¬ (0 = 77 ∧ 12 = 2) by decide) (K_n K19 rfl))
  have t_46 : (M34.2.1 0 12).toInt = (M.2.1 0 12).toInt := congrArg Int32.toInt c_45
  have c_47 : M34.2.1 77 28 = (M.2.1 77 28) := (F_n F29 (show ¬ (77 = 77 ∧ 28 = 2) by decide) (K_n K19 rfl))
  have t_48 : (M34.2.1 77 28).toInt = (M.2.1 77 28).toInt := congrArg Int32.toInt c_47
  have c_49 : M34.2.1 17 4 = (M.2.1 17 4) := (F_n F29 (show ¬ (17 = 77 ∧ 4 = 2) by decide) (K_n K19 rfl))
  have t_50 : (M34.2.1 17 4).toInt = (M.2.1 17 4).toInt := congrArg Int32.toInt c_49
  have c_51 : M34.2.1 77 41 = (M.2.1 77 41) := (F_n F29 (show ¬ (77 = 77 ∧ 41 = 2) by decide) (K_n K19 rfl))
  have t_52 : (M34.2.1 77 41).toInt = (M.2.1 77 41).toInt := congrArg Int32.toInt c_51
  have c_53 : M34.2.1 6 0 = (M.2.1 6 0) := (F_n F29 (show ¬ (6 = 77 ∧ 0 = 2) by decide) (K_n K19 rfl))
  have t_54 : (M34.2.1 6 0).toInt = (M.2.1 6 0).toInt := congrArg Int32.toInt c_53
  have c_55 : M34.2.1 77 29 = (M.2.1 77 29) := (F_n F29 (show ¬ (77 = 77 ∧ 29 = 2) by decide) (K_n K19 rfl))
  have t_56 : (M34.2.1 77 29).toInt = (M.2.1 77 29).toInt := congrArg Int32.toInt c_55
  have j_57 := (PI_f (tg_423 F29) (PI_f (fun a i z => K_n K19 rfl) jPI))
  have j_58 := (NI_f (tg_424 F29) (NI_f (fun a i z => K_n K19 rfl) jNI))
  have j_59 := (QI_f (tg_425 F29) (QI_f (fun a i z => K_n K19 rfl) jQI))
  have j_60 := (PQE_r F29.2.1 (PQE_r K20 jPQE))
  have j_61 := (FA_f (tg_426 F29) (FA_f (fun a i z => K_n K19 rfl) jFA))
  have j_62 := (WC_f (tg_427 F29) (WC_f (fun a i z => K_n K19 rfl) jWC))
  have j_63 := (NJ_f (tg_429 F29) (NJ_f (fun a i z => K_n K19 rfl) jNJ))
  have j_64 := (PS_f (tg_430 F29) (PS_f (fun a i z => K_n K19 rfl) jPS))
  have j_65 := (KQ_f (tg_432 F29) (KQ_f (fun a i z => K_n K19 rfl) jKQ))
  have j_66 := (TP_f (tg_433 F29) (TP_f (fun a i z => K_n K19 rfl) jTP))
  have j_67 := (W9_f (tg_435 F29) (W9_f (fun a i z => K_n K19 rfl) jW9))
  have j_68 := (AN_F F29 tg_499 (AN_K K19 K20 K21 jAN))
  have j_69 := (NE_r F29.2.1 (NE_r K20 jNE))
  have j_70 := (W8_f (tg_436 F29) (W8_f (fun a i z => K_n K19 rfl) jW8))
  exact h M34 (.int r17) (.int r28) ⟨⟨⟨⟨⟨⟨⟨⟨hG30, ⟨j_57, j_58, j_59, j_60⟩, ⟨j_61, j_62, j_63, j_64, j_65⟩, by omega, by omega⟩, j_66, j_67⟩, j_69, by omega⟩, AN_a j_68⟩, by omega⟩, j_70⟩, by omega⟩, j_68⟩ (by omega) (by omega)
set_option maxRecDepth 4000 in
set_option maxHeartbeats 0 in
theorem LW_7 {X : mm_X} {d L : Nat} {M : mm_M} {Q : Option Value → mm_M → Prop} {i : Int32} {u5 u6 : Value} (hX : g_X X) (hW : g_W X) (hW2 : g_W2 X) (hL : (X 0).1 = L) (h3 : L ≤ 3072) (hd : 40 ≤ d) (hi : 0 ≤ i.toInt) (hi2 : i.toInt + 6 ≤ (L : Int)) (H : LI9 M) (h : ∀ (M1 : mm_M) (v5 v6 : Value), LI9 M1 → M1.1.2.1 ≤ M.1.2.1 + 1 → M1.1.2.2.1 ≤ M.1.2.2.1 + 6 → mm_T X d 0 1314 [.ref mm_ext, .ref 0, .ref 77, .ref 125, .int i, v5, v6] [] M1 Q) : mm_T X d 0 426 [.ref mm_ext, .ref 0, .ref 77, .ref 125, .int i, u5, u6] [] M Q := by
  obtain ⟨⟨⟨⟨⟨⟨⟨⟨hG, ⟨jPI, jNI, jQI, jPQE⟩, ⟨jFA, jWC, jNJ, jPS, jKQ⟩, jJ, jE⟩, jTP, jW9⟩, jNE, jCC⟩, -⟩, jOV⟩, jW8⟩, jNN⟩, jAN⟩ := H
  have b_1 := g_b hG (a := 77) (i := 7) (lo := 0) (hi := 500) rfl rfl
  have b_2 := g_b hG (a := 77) (i := 6) (lo := 0) (hi := 500) rfl rfl
  have b_3 := g_b hG (a := 1) (i := 1) (lo := 0) (hi := 500) rfl rfl
  have b_4 := g_b hG (a := 77) (i := 1) (lo := 0) (hi := 500) rfl rfl
  have b_5 := g_b hG (a := 0) (i := 12) (lo := 0) (hi := 30) rfl rfl
  have b_6 := g_b hG (a := 77) (i := 28) (lo := 0) (hi := 30) rfl rfl
  have b_7 := g_b hG (a := 6) (i := 0) (lo := 0) (hi := 150) rfl rfl
  have b_8 := g_b hG (a := 77) (i := 29) (lo := 0) (hi := 150) rfl rfl
  refine to_an (pc := 426) rw_0_426 rfl (to_an (pc := 427) rw_0_427 rfl (to_i (pc := 428) rw_0_428 rfl (to_c (pc := 430) rw_0_430 (x := (1 : Int32)) rfl rfl (s_add (pc := 431) rw_0_431 (A := i.toInt) (B := 1) rfl rfl (by omega) (fun v9 e10 => s_x0 (pc := 432) rw_0_432 hL (A := v9.toInt) rfl (by omega) (by omega) (fun v11 e12 => to_an (pc := 433) rw_0_433 rfl (to_i (pc := 434) rw_0_434 rfl (to_c (pc := 436) rw_0_436 (x := (2 : Int32)) rfl rfl (s_add (pc := 437) rw_0_437 (A := i.toInt) (B := 2) rfl rfl (by omega) (fun v13 e14 => s_x0 (pc := 438) rw_0_438 hL (A := v13.toInt) rfl (by omega) (by omega) (fun v15 e16 => s_v (pc := 439) rw_0_439 (dp0 hd (by decide)) (ls0 := [.ref 0, .int v11, .int v15]) rfl (Nat.le_of_ble_eq_true rfl) (Nat.le_of_ble_eq_true rfl) rfl (to_rc rfl rfl rfl (g_o hG rfl)) rfl ?_)))))))))))
  obtain ⟨pz17, pzz17, qz17, qzz17, hpz17, hpzz17, hqz17, hqzz17, hpqz17⟩ := id jPQE
  obtain ⟨sg, NN, nz, ca, hs1, hs2, hn1, hn2, hn3, hn4, hn5⟩ := AN_u jAN hpqz17
  refine E_116 hX (dp1 hd (by decide)) hG hpz17 hpzz17 hqz17 hqzz17 hpqz17 hs1.1 hW2 (f := v11) (v := v15) (sg := sg) (p := pz17) (pz := pzz17) (q := qz17) (qz := qzz17) (fun r18 M22 hG20 F19 p_21 => ?_)
  have n_23 : M22.1.2.1 = M.1.2.1 ∧ M22.1.2.2.1 = M.1.2.2.1 := by rw [F19.1]; exact ⟨rfl, rfl⟩
  refine to_an (pc := 442) rw_0_442 rfl (to_an (pc := 443) rw_0_443 rfl (to_i (pc := 444) rw_0_444 rfl (to_c (pc := 446) rw_0_446 (x := (1 : Int32)) rfl rfl (s_addk (pc := 447) rw_0_447 (A := i.toInt) (B := 1) rfl rfl (by omega) (v := v9) e10 (s_x0k (pc := 448) rw_0_448 hL (A := v9.toInt) rfl (by omega) (by omega) (v := v11) e12 (to_an (pc := 449) rw_0_449 rfl (to_i (pc := 450) rw_0_450 rfl (to_c (pc := 452) rw_0_452 (x := (2 : Int32)) rfl rfl (s_addk (pc := 453) rw_0_453 (A := i.toInt) (B := 2) rfl rfl (by omega) (v := v13) e14 (s_x0k (pc := 454) rw_0_454 hL (A := v13.toInt) rfl (by omega) (by omega) (v := v15) e16 (s_v (pc := 455) rw_0_455 (dp0 hd (by decide)) (ls0 := [.ref 77, .int v11, .int v15]) rfl (Nat.le_of_ble_eq_true rfl) (Nat.le_of_ble_eq_true rfl) rfl (to_rc rfl rfl rfl (g_o hG20 rfl)) rfl ?_)))))))))))
  have j_29 := (FA_f (tg_218 F19) jFA)
  have j_30 := (PLk_f (tg_101 F19) hs2.1)
  have j_31 := (W8_f (tg_437 F19) jW8)
  refine E_185 hX (dp1 hd (by decide)) hG20 j_29 j_30 j_31 (f := v11) (v := v15) (sg := sg) (fun r32 M36 hG34 F33 p_35 => ?_)
  have n_37 : M36.1.2.1 = M22.1.2.1 ∧ M36.1.2.2.1 = M22.1.2.2.1 := by rw [F33.1]; exact ⟨rfl, rfl⟩
  have z_39 := x_eq_1.mpr (p_21.trans p_35.symm)
  refine s_lcmpE (pc := 458) rw_0_458 (fun v40 e41 => ?_)
  have b_42 := x_eq_b (x := r18) (y := r32)
  refine b_ieq (pc := 459) rw_0_459 (A := v40.toInt) rfl (fun h43 => ?_) (fun h43 => ?_)
  · have c_44 : M36.2.1 77 7 = (M.2.1 77 7) := (F_n F33 (show ¬ (77 = 77 ∧ 7 = 2) by decide) (F_n F19 (show ¬ (77 < 0) by decide) rfl))
    have t_45 : (M36.2.1 77 7).toInt = (M.2.1 77 7).toInt := congrArg Int32.toInt c_44
    have c_46 : M36.2.1 77 6 = (M.2.1 77 6) := (F_n F33 (show ¬ (77 = 77 ∧ 6 = 2) by decide) (F_n F19 (show ¬ (77 < 0) by decide) rfl))
    have t_47 : (M36.2.1 77 6).toInt = (M.2.1 77 6).toInt := congrArg Int32.toInt c_46
    have c_48 : M36.2.1 1 1 = (M.2.1 1 1) := (F_n F33 (show ¬ (1 = 77 ∧ 1 = 2) by decide) (F_n F19 (show ¬ (1 < 0) by decide) rfl))
    have t_49 : (M36.2.1 1 1).toInt = (M.2.1 1 1).toInt := congrArg Int32.toInt c_48
    have c_50 : M36.2.1 77 1 = (M.2.1 77 1) := (F_n F33 (show ¬ (77 = 77 ∧ 1 = 2) by decide) (F_n F19 (show ¬ (77 < 0) by decide) rfl))
    have t_51 : (M36.2.1 77 1).toInt = (M.2.1 77 1).toInt := congrArg Int32.toInt c_50
    have c_52 : M36.2.1 0 12 = (M.2.1 0 12) := (F_n F33 (show ¬ (0 = 77 ∧ 12 = 2) by decide) (F_n F19 (show ¬ (0 < 0) by decide) rfl))
    have t_53 : (M36.2.1 0 12).toInt = (M.2.1 0 12).toInt := congrArg Int32.toInt c_52
    have c_54 : M36.2.1 77 28 = (M.2.1 77 28) := (F_n F33 (show ¬ (77 = 77 ∧ 28 = 2) by decide) (F_n F19 (show ¬ (77 < 0) by decide) rfl))
    have t_55 : (M36.2.1 77 28).toInt = (M.2.1 77 28).toInt := congrArg Int32.toInt c_54
    have c_56 : M36.2.1 17 4 = (M.2.1 17 4) := (F_n F33 (show ¬ (17 = 77 ∧ 4 = 2) by decide) (F_n F19 (show ¬ (17 < 0) by decide) rfl))
    have t_57 : (M36.2.1 17 4).toInt = (M.2.1 17 4).toInt := congrArg Int32.toInt c_56
    have c_58 : M36.2.1 77 41 = (M.2.1 77 41) := (F_n F33 (show ¬ (77 = 77 ∧ 41 = 2) by decide) (F_n F19 (show ¬ (77 < 0) by decide) rfl))
    have t_59 : (M36.2.1 77 41).toInt = (M.2.1 77 41).toInt := congrArg Int32.toInt c_58
    have c_60 : M36.2.1 6 0 = (M.2.1 6 0) := (F_n F33 (show ¬ (6 = 77 ∧ 0 = 2) by decide) (F_n F19 (show ¬ (6 < 0) by decide) rfl))
    have t_61 : (M36.2.1 6 0).toInt = (M.2.1 6 0).toInt := congrArg Int32.toInt c_60
    have c_62 : M36.2.1 77 29 = (M.2.1 77 29) := (F_n F33 (show ¬ (77 = 77 ∧ 29 = 2) by decide) (F_n F19 (show ¬ (77 < 0) by decide) rfl))
    have t_63 : (M36.2.1 77 29).toInt = (M.2.1 77 29).toInt := congrArg Int32.toInt c_62
    have j_64 := (PI_f (tg_423 F33) (PI_f (tg_99 F19) jPI))
    have j_65 := (NI_f (tg_424 F33) (NI_f (tg_98 F19) jNI))
    have j_66 := (QI_f (tg_425 F33) (QI_f (tg_100 F19) jQI))
    have j_67 := (PQE_r F33.2.1 (PQE_r F19.2.1 jPQE))
    have j_68 := (FA_f (tg_426 F33) j_29)
    have j_69 := (WC_f (tg_427 F33) (WC_f (tg_428 F19) jWC))
    have j_70 := (NJ_f (tg_429 F33) (NJ_f (tg_102 F19) jNJ))
    have j_71 := (PS_f (tg_430 F33) (PS_f (tg_431 F19) jPS))
    have j_72 := (KQ_f (tg_432 F33) (KQ_f (tg_343 F19) jKQ))
    have j_73 := (TP_f (tg_433 F33) (TP_f (tg_434 F19) jTP))
    have j_74 := (W9_f (tg_435 F33) (W9_f (tg_46 F19) jW9))
    have j_75 := (AN_F F33 tg_499 (AN_F F19 tg_500 jAN))
    have j_76 := (NE_r F33.2.1 (NE_r F19.2.1 jNE))
    have j_77 := (W8_f (tg_436 F33) j_31)
    exact h M36 (u5) (u6) ⟨⟨⟨⟨⟨⟨⟨⟨hG34, ⟨j_64, j_65, j_66, j_67⟩, ⟨j_68, j_69, j_70, j_71, j_72⟩, by omega, by omega⟩, j_73, j_74⟩, j_76, by omega⟩, AN_a j_75⟩, by omega⟩, j_77⟩, by omega⟩, j_75⟩ (by omega) (by omega)
  · exfalso; omega
set_option maxRecDepth 4000 in
set_option maxHeartbeats 0 in
theorem LW_8 {X : mm_X} {d L : Nat} {M : mm_M} {Q : Option Value → mm_M → Prop} {i : Int32} {u5 u6 : Value} (hX : g_X X) (hW : g_W X) (hW2 : g_W2 X) (hL : (X 0).1 = L) (h3 : L ≤ 3072) (hd : 40 ≤ d) (hi : 0 ≤ i.toInt) (hi2 : i.toInt + 6 ≤ (L : Int)) (H : LI9 M) (h : ∀ (M1 : mm_M) (v5 v6 : Value), LI9 M1 → M1.1.2.1 ≤ M.1.2.1 + 1 → M1.1.2.2.1 ≤ M.1.2.2.1 + 6 → mm_T X d 0 1314 [.ref mm_ext, .ref 0, .ref 77, .ref 125, .int i, v5, v6] [] M1 Q) : mm_T X d 0 464 [.ref mm_ext, .ref 0, .ref 77, .ref 125, .int i, u5, u6] [] M Q := by
  obtain ⟨⟨⟨⟨⟨⟨⟨⟨hG, ⟨jPI, jNI, jQI, jPQE⟩, ⟨jFA, jWC, jNJ, jPS, jKQ⟩, jJ, jE⟩, jTP, jW9⟩, jNE, jCC⟩, -⟩, jOV⟩, jW8⟩, jNN⟩, jAN⟩ := H
  have b_1 := g_b hG (a := 77) (i := 7) (lo := 0) (hi := 500) rfl rfl
  have b_2 := g_b hG (a := 77) (i := 6) (lo := 0) (hi := 500) rfl rfl
  have b_3 := g_b hG (a := 1) (i := 1) (lo := 0) (hi := 500) rfl rfl
  have b_4 := g_b hG (a := 77) (i := 1) (lo := 0) (hi := 500) rfl rfl
  have b_5 := g_b hG (a := 0) (i := 12) (lo := 0) (hi := 30) rfl rfl
  have b_6 := g_b hG (a := 77) (i := 28) (lo := 0) (hi := 30) rfl rfl
  have b_7 := g_b hG (a := 6) (i := 0) (lo := 0) (hi := 150) rfl rfl
  have b_8 := g_b hG (a := 77) (i := 29) (lo := 0) (hi := 150) rfl rfl
  refine to_an (pc := 464) rw_0_464 rfl (to_an (pc := 465) rw_0_465 rfl (to_i (pc := 466) rw_0_466 rfl (to_c (pc := 468) rw_0_468 (x := (1 : Int32)) rfl rfl (s_add (pc := 469) rw_0_469 (A := i.toInt) (B := 1) rfl rfl (by omega) (fun v9 e10 => s_x0 (pc := 470) rw_0_470 hL (A := v9.toInt) rfl (by omega) (by omega) (fun v11 e12 => to_an (pc := 471) rw_0_471 rfl (to_i (pc := 472) rw_0_472 rfl (to_c (pc := 474) rw_0_474 (x := (2 : Int32)) rfl rfl (s_add (pc := 475) rw_0_475 (A := i.toInt) (B := 2) rfl rfl (by omega) (fun v13 e14 => s_x0 (pc := 476) rw_0_476 hL (A := v13.toInt) rfl (by omega) (by omega) (fun v15 e16 => s_v (pc := 477) rw_0_477 (dp0 hd (by decide)) (ls0 := [.ref 0, .int v11, .int v15]) rfl (Nat.le_of_ble_eq_true rfl) (Nat.le_of_ble_eq_true rfl) rfl (to_rc rfl rfl rfl (g_o hG rfl)) rfl ?_)))))))))))
  obtain ⟨pz17, pzz17, qz17, qzz17, hpz17, hpzz17, hqz17, hqzz17, hpqz17⟩ := id jPQE
  refine C_117 hX (dp1 hd (by decide)) hG hpz17 hpzz17 hqz17 hqzz17 hpqz17 jNI jPI jQI (n := v11) (w := v15) (p := pz17) (pz := pzz17) (q := qz17) (qz := qzz17) (fun r18 M24 hG20 F19 p_21 p_22 p_23 => ?_)
  have n_25 : M24.1.2.1 = M.1.2.1 ∧ M24.1.2.2.1 = M.1.2.2.1 := by rw [F19.1]; exact ⟨rfl, rfl⟩
  refine s_pop2 (pc := 480) rw_0_480 (to_an (pc := 481) rw_0_481 rfl (to_an (pc := 482) rw_0_482 rfl (to_i (pc := 483) rw_0_483 rfl (to_c (pc := 485) rw_0_485 (x := (1 : Int32)) rfl rfl (s_addk (pc := 486) rw_0_486 (A := i.toInt) (B := 1) rfl rfl (by omega) (v := v9) e10 (s_x0k (pc := 487) rw_0_487 hL (A := v9.toInt) rfl (by omega) (by omega) (v := v11) e12 (to_an (pc := 488) rw_0_488 rfl (to_i (pc := 489) rw_0_489 rfl (to_c (pc := 491) rw_0_491 (x := (2 : Int32)) rfl rfl (s_addk (pc := 492) rw_0_492 (A := i.toInt) (B := 2) rfl rfl (by omega) (v := v13) e14 (s_x0k (pc := 493) rw_0_493 hL (A := v13.toInt) rfl (by omega) (by omega) (v := v15) e16 ?_)))))))))))
  refine s_v (pc := 494) rw_0_494 (dp0 hd (by decide)) (ls0 := [.ref 77, .int v11, .int v15]) rfl (Nat.le_of_ble_eq_true rfl) (Nat.le_of_ble_eq_true rfl) rfl (to_rc rfl rfl rfl (g_o hG20 rfl)) rfl ?_
  have j_31 := (NJ_f (tg_438 F19) jNJ)
  refine C_192 hX (dp1 hd (by decide)) hG20 j_31 (n := v11) (w := v15) (fun r32 M35 hG34 F33 => ?_)
  have n_36 : M35.1.2.1 = M24.1.2.1 ∧ M35.1.2.2.1 = M24.1.2.2.1 := by rw [F33.1]; exact ⟨rfl, rfl⟩
  refine s_pop2 (pc := 497) rw_0_497 (to_go (pc := 498) rw_0_498 ?_)
  have c_38 : M35.2.1 77 7 = (M.2.1 77 7) := (F_n F33 (show ¬ (77 = 77 ∧ 7 = 2 ∨ 94 ≤ 77 ∧ 77 ≤ 98) by decide) (F_n F19 (show ¬ (11 ≤ 77 ∧ 77 ≤ 16 ∨ 18 ≤ 77 ∧ 77 ≤ 48 ∨ 67 ≤ 77 ∧ 77 ≤ 76) by decide) rfl))
  have t_39 : (M35.2.1 77 7).toInt = (M.2.1 77 7).toInt := congrArg Int32.toInt c_38
  have c_40 : M35.2.1 77 6 = (M.2.1 77 6) := (F_n F33 (show ¬ (77 = 77 ∧ 6 = 2 ∨ 94 ≤ 77 ∧ 77 ≤ 98) by decide) (F_n F19 (show ¬ (11 ≤ 77 ∧ 77 ≤ 16 ∨ 18 ≤ 77 ∧ 77 ≤ 48 ∨ 67 ≤ 77 ∧ 77 ≤ 76) by decide) rfl))
  have t_41 : (M35.2.1 77 6).toInt = (M.2.1 77 6).toInt := congrArg Int32.toInt c_40
  have c_42 : M35.2.1 1 1 = (M.2.1 1 1) := (F_n F33 (show ¬ (1 = 77 ∧ 1 = 2 ∨ 94 ≤ 1 ∧ 1 ≤ 98) by decide) (F_n F19 (show ¬ (11 ≤ 1 ∧ 1 ≤ 16 ∨ 18 ≤ 1 ∧ 1 ≤ 48 ∨ 67 ≤ 1 ∧ 1 ≤ 76) by decide) rfl))
  have t_43 : (M35.2.1 1 1).toInt = (M.2.1 1 1).toInt := congrArg Int32.toInt c_42
  have c_44 : M35.2.1 77 1 = (M.2.1 77 1) := (F_n F33 (show ¬ (77 = 77 ∧ 1 = 2 ∨ 94 ≤ 77 ∧ 77 ≤ 98) by decide) (F_n F19 (show ¬ (11 ≤ 77 ∧ 77 ≤ 16 ∨ 18 ≤ 77 ∧ 77 ≤ 48 ∨ 67 ≤ 77 ∧ 77 ≤ 76) by decide) rfl))
  have t_45 : (M35.2.1 77 1).toInt = (M.2.1 77 1).toInt := congrArg Int32.toInt c_44
  have c_46 : M35.2.1 0 12 = (M.2.1 0 12) := (F_n F33 (show ¬ (0 = 77 ∧ 12 = 2 ∨ 94 ≤ 0 ∧ 0 ≤ 98) by decide) (F_n F19 (show ¬ (11 ≤ 0 ∧ 0 ≤ 16 ∨ 18 ≤ 0 ∧ 0 ≤ 48 ∨ 67 ≤ 0 ∧ 0 ≤ 76) by decide) rfl))
  have t_47 : (M35.2.1 0 12).toInt = (M.2.1 0 12).toInt := congrArg Int32.toInt c_46
  have c_48 : M35.2.1 77 28 = (M.2.1 77 28) := (F_n F33 (show ¬ (77 = 77 ∧ 28 = 2 ∨ 94 ≤ 77 ∧ 77 ≤ 98) by decide) (F_n F19 (show ¬ (11 ≤ 77 ∧ 77 ≤ 16 ∨ 18 ≤ 77 ∧ 77 ≤ 48 ∨ 67 ≤ 77 ∧ 77 ≤ 76) by decide) rfl))
  have t_49 : (M35.2.1 77 28).toInt = (M.2.1 77 28).toInt := congrArg Int32.toInt c_48
  have c_50 : M35.2.1 17 4 = (M.2.1 17 4) := (F_n F33 (show ¬ (17 = 77 ∧ 4 = 2 ∨ 94 ≤ 17 ∧ 17 ≤ 98) by decide) (F_n F19 (show ¬ (11 ≤ 17 ∧ 17 ≤ 16 ∨ 18 ≤ 17 ∧ 17 ≤ 48 ∨ 67 ≤ 17 ∧ 17 ≤ 76) by decide) rfl))
  have t_51 : (M35.2.1 17 4).toInt = (M.2.1 17 4).toInt := congrArg Int32.toInt c_50
  have c_52 : M35.2.1 77 41 = (M.2.1 77 41) := (F_n F33 (show ¬ (77 = 77 ∧ 41 = 2 ∨ 94 ≤ 77 ∧ 77 ≤ 98) by decide) (F_n F19 (show ¬ (11 ≤ 77 ∧ 77 ≤ 16 ∨ 18 ≤ 77 ∧ 77 ≤ 48 ∨ 67 ≤ 77 ∧ 77 ≤ 76) by decide) rfl))
  have t_53 : (M35.2.1 77 41).toInt = (M.2.1 77 41).toInt := congrArg Int32.toInt c_52
  have c_54 : M35.2.1 6 0 = (M.2.1 6 0) := (F_n F33 (show ¬ (6 = 77 ∧ 0 = 2 ∨ 94 ≤ 6 ∧ 6 ≤ 98) by decide) (F_n F19 (show ¬ (11 ≤ 6 ∧ 6 ≤ 16 ∨ 18 ≤ 6 ∧ 6 ≤ 48 ∨ 67 ≤ 6 ∧ 6 ≤ 76) by decide) rfl))
  have t_55 : (M35.2.1 6 0).toInt = (M.2.1 6 0).toInt := congrArg Int32.toInt c_54
  have c_56 : M35.2.1 77 29 = (M.2.1 77 29) := (F_n F33 (show ¬ (77 = 77 ∧ 29 = 2 ∨ 94 ≤ 77 ∧ 77 ≤ 98) by decide) (F_n F19 (show ¬ (11 ≤ 77 ∧ 77 ≤ 16 ∨ 18 ≤ 77 ∧ 77 ≤ 48 ∨ 67 ≤ 77 ∧ 77 ≤ 76) by decide) rfl))
  have t_57 : (M35.2.1 77 29).toInt = (M.2.1 77 29).toInt := congrArg Int32.toInt c_56
  have j_58 := (PI_f (tg_439 F33) p_21)
  have j_59 := (NI_f (tg_440 F33) p_22)
  have j_60 := (QI_f (tg_441 F33) p_23)
  have j_61 := (PQE_r F33.2.1 (PQE_r F19.2.1 jPQE))
  have j_62 := (FA_f (tg_442 F33) (FA_f (tg_443 F19) jFA))
  have j_63 := (WC_f (tg_444 F33) (WC_f (tg_445 F19) jWC))
  have j_64 := (NJ_f (tg_446 F33) j_31)
  have j_65 := (PS_f (tg_447 F33) (PS_f (tg_448 F19) jPS))
  have j_66 := (KQ_f (tg_449 F33) (KQ_f (tg_450 F19) jKQ))
  have j_67 := (TP_f (tg_451 F33) (TP_f (tg_452 F19) jTP))
  have j_68 := (W9_f (tg_453 F33) (W9_f (tg_454 F19) jW9))
  have j_69 := (AN_F F33 tg_501 (AN_F F19 tg_502 jAN))
  have j_70 := (NE_r F33.2.1 (NE_r F19.2.1 jNE))
  have j_71 := (W8_f (tg_455 F33) (W8_f (tg_456 F19) jW8))
  exact h M35 (u5) (u6) ⟨⟨⟨⟨⟨⟨⟨⟨hG34, ⟨j_58, j_59, j_60, j_61⟩, ⟨j_62, j_63, j_64, j_65, j_66⟩, by omega, by omega⟩, j_67, j_68⟩, j_70, by omega⟩, AN_a j_69⟩, by omega⟩, j_71⟩, by omega⟩, j_69⟩ (by omega) (by omega)
set_option maxRecDepth 4000 in
set_option maxHeartbeats 0 in
theorem LW_9 {X : mm_X} {d L : Nat} {M : mm_M} {Q : Option Value → mm_M → Prop} {i : Int32} {u5 u6 : Value} (hX : g_X X) (hW : g_W X) (hW2 : g_W2 X) (hL : (X 0).1 = L) (h3 : L ≤ 3072) (hd : 40 ≤ d) (hi : 0 ≤ i.toInt) (hi2 : i.toInt + 6 ≤ (L : Int)) (H : LI9 M) (h : ∀ (M1 : mm_M) (v5 v6 : Value), LI9 M1 → M1.1.2.1 ≤ M.1.2.1 + 1 → M1.1.2.2.1 ≤ M.1.2.2.1 + 6 → mm_T X d 0 1314 [.ref mm_ext, .ref 0, .ref 77, .ref 125, .int i, v5, v6] [] M1 Q) : mm_T X d 0 501 [.ref mm_ext, .ref 0, .ref 77, .ref 125, .int i, u5, u6] [] M Q := by
  obtain ⟨⟨⟨⟨⟨⟨⟨⟨hG, ⟨jPI, jNI, jQI, jPQE⟩, ⟨jFA, jWC, jNJ, jPS, jKQ⟩, jJ, jE⟩, jTP, jW9⟩, jNE, jCC⟩, -⟩, jOV⟩, jW8⟩, jNN⟩, jAN⟩ := H
  have b_1 := g_b hG (a := 77) (i := 7) (lo := 0) (hi := 500) rfl rfl
  have b_2 := g_b hG (a := 77) (i := 6) (lo := 0) (hi := 500) rfl rfl
  have b_3 := g_b hG (a := 1) (i := 1) (lo := 0) (hi := 500) rfl rfl
  have b_4 := g_b hG (a := 77) (i := 1) (lo := 0) (hi := 500) rfl rfl
  have b_5 := g_b hG (a := 0) (i := 12) (lo := 0) (hi := 30) rfl rfl
  have b_6 := g_b hG (a := 77) (i := 28) (lo := 0) (hi := 30) rfl rfl
  have b_7 := g_b hG (a := 6) (i := 0) (lo := 0) (hi := 150) rfl rfl
  have b_8 := g_b hG (a := 77) (i := 29) (lo := 0) (hi := 150) rfl rfl
  refine to_an (pc := 501) rw_0_501 rfl (s_v (pc := 502) rw_0_502 (dp0 hd (by decide)) (ls0 := [.ref 0]) rfl (Nat.le_of_ble_eq_true rfl) (Nat.le_of_ble_eq_true rfl) rfl (to_rc rfl rfl rfl (g_o hG rfl)) rfl ?_)
  obtain ⟨pz9, pzz9, qz9, qzz9, hpz9, hpzz9, hqz9, hqzz9, hpqz9⟩ := id jPQE
  refine C_118 hX (dp1 hd (by decide)) hG hpz9 hpzz9 hqz9 hqzz9 hpqz9 jPI jNI jQI (p := pz9) (pz := pzz9) (q := qz9) (qz := qzz9) (fun r10 M18 hG12 F11 p_13 p_14 p_15 p_16 p_17 => ?_)
  have n_19 : M18.1.2.1 = M.1.2.1 ∧ M18.1.2.2.1 = M.1.2.2.1 := by rw [F11.1]; exact ⟨rfl, rfl⟩
  have b_21 := g_b hG12 (a := 0) (i := 12) (lo := 0) (hi := 30) rfl rfl
  have z_22 := AN_C F11 (fun a i z => show ¬ (a = 0 ∧ i = 12 ∨ 18 ≤ a ∧ a ≤ 27) by omega) (by omega) jAN
  refine to_popi (pc := 505) rw_0_505 (to_an (pc := 506) rw_0_506 rfl (s_v (pc := 507) rw_0_507 (dp0 hd (by decide)) (ls0 := [.ref 77]) rfl (Nat.le_of_ble_eq_true rfl) (Nat.le_of_ble_eq_true rfl) rfl (to_rc rfl rfl rfl (g_o hG12 rfl)) rfl ?_))
  have c_23 : M18.2.1 77 28 = (M.2.1 77 28) := (F_n F11 (show ¬ (77 = 0 ∧ 28 = 12 ∨ 18 ≤ 77 ∧ 77 ≤ 27) by decide) rfl)
  have t_24 : (M18.2.1 77 28).toInt = (M.2.1 77 28).toInt := congrArg Int32.toInt c_23
  have j_25 := (PS_f (tg_457 F11) jPS)
  refine C_193 hX (dp1 hd (by decide)) hG12 j_25  (fun r26 M32 hG28 F27 p_29 p_30 p_31 => ?_)
  have n_33 : M32.1.2.1 = M18.1.2.1 ∧ M32.1.2.2.1 = M18.1.2.2.1 := by rw [F27.1]; exact ⟨rfl, rfl⟩
  have b_35 := g_b hG28 (a := 77) (i := 28) (lo := 0) (hi := 30) rfl rfl
  refine to_popi (pc := 510) rw_0_510 (to_go (pc := 511) rw_0_511 ?_)
  have c_36 : M32.2.1 77 7 = (M.2.1 77 7) := (F_n F27 (show ¬ (77 = 77 ∧ (7 = 2 ∨ 7 = 28) ∨ 77 = 99 ∨ 77 = 100) by decide) (F_n F11 (show ¬ (77 = 0 ∧ 7 = 12 ∨ 18 ≤ 77 ∧ 77 ≤ 27) by decide) rfl))
  have t_37 : (M32.2.1 77 7).toInt = (M.2.1 77 7).toInt := congrArg Int32.toInt c_36
  have c_38 : M32.2.1 77 6 = (M.2.1 77 6) := (F_n F27 (show ¬ (77 = 77 ∧ (6 = 2 ∨ 6 = 28) ∨ 77 = 99 ∨ 77 = 100) by decide) (F_n F11 (show ¬ (77 = 0 ∧ 6 = 12 ∨ 18 ≤ 77 ∧ 77 ≤ 27) by decide) rfl))
  have t_39 : (M32.2.1 77 6).toInt = (M.2.1 77 6).toInt := congrArg Int32.toInt c_38
  have c_40 : M32.2.1 1 1 = (M.2.1 1 1) := (F_n F27 (show ¬ (1 = 77 ∧ (1 = 2 ∨ 1 = 28) ∨ 1 = 99 ∨ 1 = 100) by decide) (F_n F11 (show ¬ (1 = 0 ∧ 1 = 12 ∨ 18 ≤ 1 ∧ 1 ≤ 27) by decide) rfl))
  have t_41 : (M32.2.1 1 1).toInt = (M.2.1 1 1).toInt := congrArg Int32.toInt c_40
  have c_42 : M32.2.1 77 1 = (M.2.1 77 1) := (F_n F27 (show ¬ (77 = 77 ∧ (1 = 2 ∨ 1 = 28) ∨ 77 = 99 ∨ 77 = 100) by decide) (F_n F11 (show ¬ (77 = 0 ∧ 1 = 12 ∨ 18 ≤ 77 ∧ 77 ≤ 27) by decide) rfl))
  have t_43 : (M32.2.1 77 1).toInt = (M.2.1 77 1).toInt := congrArg Int32.toInt c_42
  have c_44 : M32.2.1 0 12 = (M18.2.1 0 12) := (F_n F27 (show ¬ (0 = 77 ∧ (12 = 2 ∨ 12 = 28) ∨ 0 = 99 ∨ 0 = 100) by decide) rfl)
  have t_45 : (M32.2.1 0 12).toInt = (M18.2.1 0 12).toInt := congrArg Int32.toInt c_44
  have c_46 : M32.2.1 17 4 = (M.2.1 17 4) := (F_n F27 (show ¬ (17 = 77 ∧ (4 = 2 ∨ 4 = 28) ∨ 17 = 99 ∨ 17 = 100) by decide) (F_n F11 (show ¬ (17 = 0 ∧ 4 = 12 ∨ 18 ≤ 17 ∧ 17 ≤ 27) by decide) rfl))
  have t_47 : (M32.2.1 17 4).toInt = (M.2.1 17 4).toInt := congrArg Int32.toInt c_46
  have c_48 : M32.2.1 77 41 = (M.2.1 77 41) := (F_n F27 (show ¬ (77 = 77 ∧ (41 = 2 ∨ 41 = 28) ∨ 77 = 99 ∨ 77 = 100) by decide) (F_n F11 (show ¬ (77 = 0 ∧ 41 = 12 ∨ 18 ≤ 77 ∧ 77 ≤ 27) by decide) rfl))
  have t_49 : (M32.2.1 77 41).toInt = (M.2.1 77 41).toInt := congrArg Int32.toInt c_48
  have c_50 : M32.2.1 6 0 = (M.2.1 6 0) := (F_n F27 (show ¬ (6 = 77 ∧ (0 = 2 ∨ 0 = 28) ∨ 6 = 99 ∨ 6 = 100) by decide) (F_n F11 (show ¬ (6 = 0 ∧ 0 = 12 ∨ 18 ≤ 6 ∧ 6 ≤ 27) by decide) rfl))
  have t_51 : (M32.2.1 6 0).toInt = (M.2.1 6 0).toInt := congrArg Int32.toInt c_50
  have c_52 : M32.2.1 77 29 = (M.2.1 77 29) := (F_n F27 (show ¬ (77 = 77 ∧ (29 = 2 ∨ 29 = 28) ∨ 77 = 99 ∨ 77 = 100) by decide) (F_n F11 (show ¬ (77 = 0 ∧ 29 = 12 ∨ 18 ≤ 77 ∧ 77 ≤ 27) by decide) rfl))
  have t_53 : (M32.2.1 77 29).toInt = (M.2.1 77 29).toInt := congrArg Int32.toInt c_52
  have j_54 := (PI_f (tg_458 F27) p_15)
  have j_55 := (NI_f (tg_459 F27) p_16)
  have j_56 := (QI_f (tg_460 F27) p_17)
  have j_57 := (PQE_r F27.2.1 (PQE_r F11.2.1 jPQE))
  have j_58 := (FA_f (tg_461 F27) (FA_f (tg_462 F11) jFA))
  have j_59 := (WC_f (tg_463 F27) (WC_f (tg_464 F11) jWC))
  have j_60 := (NJ_f (tg_465 F27) (NJ_f (tg_466 F11) jNJ))
  have j_61 := (KQ_f (tg_467 F27) (KQ_f (tg_468 F11) jKQ))
  have j_62 := (TP_f (tg_469 F27) (TP_f (tg_470 F11) jTP))
  have j_63 := (W9_f (tg_471 F27) (W9_f (tg_472 F11) jW9))
  have j_64 := (AN_F F27 tg_503 z_22)
  have j_65 := (NE_r F27.2.1 (NE_r F11.2.1 jNE))
  have j_66 := (W8_f (tg_473 F27) (W8_f (tg_474 F11) jW8))
  exact h M32 (u5) (u6) ⟨⟨⟨⟨⟨⟨⟨⟨hG28, ⟨j_54, j_55, j_56, j_57⟩, ⟨j_58, j_59, j_60, p_31, j_61⟩, by omega, by omega⟩, j_62, j_63⟩, j_65, by omega⟩, AN_a j_64⟩, by omega⟩, j_66⟩, by omega⟩, j_64⟩ (by omega) (by omega)
set_option maxRecDepth 4000 in
set_option maxHeartbeats 0 in
theorem LW_10 {X : mm_X} {d L : Nat} {M : mm_M} {Q : Option Value → mm_M → Prop} {i : Int32} {u5 u6 : Value} (hX : g_X X) (hW : g_W X) (hW2 : g_W2 X) (hL : (X 0).1 = L) (h3 : L ≤ 3072) (hd : 40 ≤ d) (hi : 0 ≤ i.toInt) (hi2 : i.toInt + 6 ≤ (L : Int)) (H : LI9 M) (h : ∀ (M1 : mm_M) (v5 v6 : Value), LI9 M1 → M1.1.2.1 ≤ M.1.2.1 + 1 → M1.1.2.2.1 ≤ M.1.2.2.1 + 6 → mm_T X d 0 1314 [.ref mm_ext, .ref 0, .ref 77, .ref 125, .int i, v5, v6] [] M1 Q) : mm_T X d 0 514 [.ref mm_ext, .ref 0, .ref 77, .ref 125, .int i, u5, u6] [] M Q := by
  obtain ⟨⟨⟨⟨⟨⟨⟨⟨hG, ⟨jPI, jNI, jQI, jPQE⟩, ⟨jFA, jWC, jNJ, jPS, jKQ⟩, jJ, jE⟩, jTP, jW9⟩, jNE, jCC⟩, -⟩, jOV⟩, jW8⟩, jNN⟩, jAN⟩ := H
  have b_1 := g_b hG (a := 77) (i := 7) (lo := 0) (hi := 500) rfl rfl
  have b_2 := g_b hG (a := 77) (i := 6) (lo := 0) (hi := 500) rfl rfl
  have b_3 := g_b hG (a := 1) (i := 1) (lo := 0) (hi := 500) rfl rfl
  have b_4 := g_b hG (a := 77) (i := 1) (lo := 0) (hi := 500) rfl rfl
  have b_5 := g_b hG (a := 0) (i := 12) (lo := 0) (hi := 30) rfl rfl
  have b_6 := g_b hG (a := 77) (i := 28) (lo := 0) (hi := 30) rfl rfl
  have b_7 := g_b hG (a := 6) (i := 0) (lo := 0) (hi := 150) rfl rfl
  have b_8 := g_b hG (a := 77) (i := 29) (lo := 0) (hi := 150) rfl rfl
  refine to_an (pc := 514) rw_0_514 rfl (to_an (pc := 515) rw_0_515 rfl (to_i (pc := 516) rw_0_516 rfl (to_c (pc := 518) rw_0_518 (x := (1 : Int32)) rfl rfl (s_add (pc := 519) rw_0_519 (A := i.toInt) (B := 1) rfl rfl (by omega) (fun v9 e10 => s_x0 (pc := 520) rw_0_520 hL (A := v9.toInt) rfl (by omega) (by omega) (fun v11 e12 => to_an (pc := 521) rw_0_521 rfl (to_i (pc := 522) rw_0_522 rfl (to_c (pc := 524) rw_0_524 (x := (2 : Int32)) rfl rfl (s_add (pc := 525) rw_0_525 (A := i.toInt) (B := 2) rfl rfl (by omega) (fun v13 e14 => s_x0 (pc := 526) rw_0_526 hL (A := v13.toInt) rfl (by omega) (by omega) (fun v15 e16 => to_an (pc := 527) rw_0_527 rfl ?_)))))))))))
  refine to_i (pc := 528) rw_0_528 rfl (to_c (pc := 530) rw_0_530 (x := (3 : Int32)) rfl rfl (s_add (pc := 531) rw_0_531 (A := i.toInt) (B := 3) rfl rfl (by omega) (fun v17 e18 => s_x0 (pc := 532) rw_0_532 hL (A := v17.toInt) rfl (by omega) (by omega) (fun v19 e20 => s_v (pc := 533) rw_0_533 (dp0 hd (by decide)) (ls0 := [.ref 0, .int v11, .int v15, .int v19]) rfl (Nat.le_of_ble_eq_true rfl) (Nat.le_of_ble_eq_true rfl) rfl (to_rc rfl rfl rfl (g_o hG rfl)) rfl ?_))))
  obtain ⟨pz21, pzz21, qz21, qzz21, hpz21, hpzz21, hqz21, hqzz21, hpqz21⟩ := id jPQE
  obtain ⟨sg, NN, nz, ca, hs1, hs2, hn1, hn2, hn3, hn4, hn5⟩ := AN_u jAN hpqz21
  refine E_119 hX (dp1 hd (by decide)) hG hpz21 hpzz21 hqz21 hqzz21 hpqz21 jNI jPI jQI hs1.1 (c := v11) (f := v15) (v := v19) (sg := sg) (p := pz21) (pz := pzz21) (q := qz21) (qz := qzz21) (fun r22 M31 hG24 F23 p_25 p_26 p_27 p_28 p_29 p_30 => ?_)
  have n_32 : M31.1.2.1 = M.1.2.1 ∧ M31.1.2.2.1 = M.1.2.2.1 := by rw [F23.1]; exact ⟨rfl, rfl⟩
  have b_34 := g_b hG24 (a := 6) (i := 0) (lo := 0) (hi := 150) rfl rfl
  have c_35 : M31.2.1 77 29 = (M.2.1 77 29) := (F_n F23 (show ¬ (6 ≤ 77 ∧ 77 ≤ 10) by decide) rfl)
  have t_36 : (M31.2.1 77 29).toInt = (M.2.1 77 29).toInt := congrArg Int32.toInt c_35
  refine to_popi (pc := 536) rw_0_536 (to_an (pc := 537) rw_0_537 rfl (to_an (pc := 538) rw_0_538 rfl (to_i (pc := 539) rw_0_539 rfl (to_c (pc := 541) rw_0_541 (x := (1 : Int32)) rfl rfl (s_addk (pc := 542) rw_0_542 (A := i.toInt) (B := 1) rfl rfl (by omega) (v := v9) e10 (s_x0k (pc := 543) rw_0_543 hL (A := v9.toInt) rfl (by omega) (by omega) (v := v11) e12 (to_an (pc := 544) rw_0_544 rfl (to_i (pc := 545) rw_0_545 rfl (to_c (pc := 547) rw_0_547 (x := (2 : Int32)) rfl rfl (s_addk (pc := 548) rw_0_548 (A := i.toInt) (B := 2) rfl rfl (by omega) (v := v13) e14 (s_x0k (pc := 549) rw_0_549 hL (A := v13.toInt) rfl (by omega) (by omega) (v := v15) e16 ?_)))))))))))
  refine to_an (pc := 550) rw_0_550 rfl (to_i (pc := 551) rw_0_551 rfl (to_c (pc := 553) rw_0_553 (x := (3 : Int32)) rfl rfl (s_addk (pc := 554) rw_0_554 (A := i.toInt) (B := 3) rfl rfl (by omega) (v := v17) e18 (s_x0k (pc := 555) rw_0_555 hL (A := v17.toInt) rfl (by omega) (by omega) (v := v19) e20 (s_v (pc := 556) rw_0_556 (dp0 hd (by decide)) (ls0 := [.ref 77, .int v11, .int v15, .int v19]) rfl (Nat.le_of_ble_eq_true rfl) (Nat.le_of_ble_eq_true rfl) rfl (to_rc rfl rfl rfl (g_o hG24 rfl)) rfl ?_)))))
  have c_43 : M31.2.1 77 28 = (M.2.1 77 28) := (F_n F23 (show ¬ (6 ≤ 77 ∧ 77 ≤ 10) by decide) rfl)
  have t_44 : (M31.2.1 77 28).toInt = (M.2.1 77 28).toInt := congrArg Int32.toInt c_43
  have j_45 := (NJ_f (tg_475 F23) jNJ)
  have j_46 := (FA_f (tg_476 F23) jFA)
  have j_47 := (PLk_f (tg_477 F23) hs2.1)
  refine E_194 hX (dp1 hd (by decide)) hG24 j_45 j_46 j_47 (c := v11) (f := v15) (v := v19) (sg := sg) (fun r48 M55 hG50 F49 p_51 p_52 p_53 p_54 => ?_)
  have n_56 : M55.1.2.1 = M31.1.2.1 ∧ M55.1.2.2.1 = M31.1.2.2.1 := by rw [F49.1]; exact ⟨rfl, rfl⟩
  have b_58 := g_b hG50 (a := 77) (i := 29) (lo := 0) (hi := 150) rfl rfl
  have k_59 : (0 : Int32).toInt = 0 := rfl
  have k_60 : (1 : Int32).toInt = 1 := rfl
  have k_61 : (2 : Int32).toInt = 2 := rfl
  have k_62 : (3 : Int32).toInt = 3 := rfl
  have k_63 : (4 : Int32).toInt = 4 := rfl
  have k_64 : (5 : Int32).toInt = 5 := rfl
  have z_65 := AN_n hpz21 hpqz21 hs1 hs2 hn1 hn2 hn3 hn4 hn5 F23 (fun a i z => show ¬ (6 ≤ a ∧ a ≤ 10) by omega) F49 (fun a i z => show ¬ (a = 77 ∧ (i = 2 ∨ i = 29) ∨ 90 ≤ a ∧ a ≤ 93) by omega) p_30 p_54 (by omega) (by omega) (by omega) (by omega) (fun z9 => ⟨fun z => by omega, fun z => by omega, fun z => by omega, fun z => by omega, fun z => by omega⟩)
  refine to_popi (pc := 559) rw_0_559 (to_go (pc := 560) rw_0_560 ?_)
  have c_66 : M55.2.1 77 7 = (M.2.1 77 7) := (F_n F49 (show ¬ (77 = 77 ∧ (7 = 2 ∨ 7 = 29) ∨ 90 ≤ 77 ∧ 77 ≤ 93) by decide) (F_n F23 (show ¬ (6 ≤ 77 ∧ 77 ≤ 10) by decide) rfl))
  have t_67 : (M55.2.1 77 7).toInt = (M.2.1 77 7).toInt := congrArg Int32.toInt c_66
  have c_68 : M55.2.1 77 6 = (M.2.1 77 6) := (F_n F49 (show ¬ (77 = 77 ∧ (6 = 2 ∨ 6 = 29) ∨ 90 ≤ 77 ∧ 77 ≤ 93) by decide) (F_n F23 (show ¬ (6 ≤ 77 ∧ 77 ≤ 10) by decide) rfl))
  have t_69 : (M55.2.1 77 6).toInt = (M.2.1 77 6).toInt := congrArg Int32.toInt c_68
  have c_70 : M55.2.1 1 1 = (M.2.1 1 1) := (F_n F49 (show ¬ (1 = 77 ∧ (1 = 2 ∨ 1 = 29) ∨ 90 ≤ 1 ∧ 1 ≤ 93) by decide) (F_n F23 (show ¬ (6 ≤ 1 ∧ 1 ≤ 10) by decide) rfl))
  have t_71 : (M55.2.1 1 1).toInt = (M.2.1 1 1).toInt := congrArg Int32.toInt c_70
  have c_72 : M55.2.1 77 1 = (M.2.1 77 1) := (F_n F49 (show ¬ (77 = 77 ∧ (1 = 2 ∨ 1 = 29) ∨ 90 ≤ 77 ∧ 77 ≤ 93) by decide) (F_n F23 (show ¬ (6 ≤ 77 ∧ 77 ≤ 10) by decide) rfl))
  have t_73 : (M55.2.1 77 1).toInt = (M.2.1 77 1).toInt := congrArg Int32.toInt c_72
  have c_74 : M55.2.1 0 12 = (M.2.1 0 12) := (F_n F49 (show ¬ (0 = 77 ∧ (12 = 2 ∨ 12 = 29) ∨ 90 ≤ 0 ∧ 0 ≤ 93) by decide) (F_n F23 (show ¬ (6 ≤ 0 ∧ 0 ≤ 10) by decide) rfl))
  have t_75 : (M55.2.1 0 12).toInt = (M.2.1 0 12).toInt := congrArg Int32.toInt c_74
  have c_76 : M55.2.1 77 28 = (M.2.1 77 28) := (F_n F49 (show ¬ (77 = 77 ∧ (28 = 2 ∨ 28 = 29) ∨ 90 ≤ 77 ∧ 77 ≤ 93) by decide) c_43)
  have t_77 : (M55.2.1 77 28).toInt = (M.2.1 77 28).toInt := congrArg Int32.toInt c_76
  have c_78 : M55.2.1 17 4 = (M.2.1 17 4) := (F_n F49 (show ¬ (17 = 77 ∧ (4 = 2 ∨ 4 = 29) ∨ 90 ≤ 17 ∧ 17 ≤ 93) by decide) (F_n F23 (show ¬ (6 ≤ 17 ∧ 17 ≤ 10) by decide) rfl))
  have t_79 : (M55.2.1 17 4).toInt = (M.2.1 17 4).toInt := congrArg Int32.toInt c_78
  have c_80 : M55.2.1 77 41 = (M.2.1 77 41) := (F_n F49 (show ¬ (77 = 77 ∧ (41 = 2 ∨ 41 = 29) ∨ 90 ≤ 77 ∧ 77 ≤ 93) by decide) (F_n F23 (show ¬ (6 ≤ 77 ∧ 77 ≤ 10) by decide) rfl))
  have t_81 : (M55.2.1 77 41).toInt = (M.2.1 77 41).toInt := congrArg Int32.toInt c_80
  have c_82 : M55.2.1 6 0 = (M31.2.1 6 0) := (F_n F49 (show ¬ (6 = 77 ∧ (0 = 2 ∨ 0 = 29) ∨ 90 ≤ 6 ∧ 6 ≤ 93) by decide) rfl)
  have t_83 : (M55.2.1 6 0).toInt = (M31.2.1 6 0).toInt := congrArg Int32.toInt c_82
  have j_84 := (PI_f (tg_478 F49) p_26)
  have j_85 := (NI_f (tg_479 F49) p_25)
  have j_86 := (QI_f (tg_480 F49) p_27)
  have j_87 := (PQE_r F49.2.1 (PQE_r F23.2.1 jPQE))
  have j_88 := (FA_f (tg_481 F49) j_46)
  have j_89 := (WC_f (tg_482 F49) (WC_f (tg_483 F23) jWC))
  have j_90 := (PS_f (tg_484 F49) (PS_f (tg_485 F23) jPS))
  have j_91 := (KQ_f (tg_486 F49) (KQ_f (tg_487 F23) jKQ))
  have j_92 := (TP_f (tg_488 F49) (TP_f (tg_489 F23) jTP))
  have j_93 := (W9_f (tg_490 F49) (W9_f (tg_491 F23) jW9))
  have j_94 := (NE_r F49.2.1 (NE_r F23.2.1 jNE))
  have j_95 := (W8_f (tg_492 F49) (W8_f (tg_493 F23) jW8))
  exact h M55 (u5) (u6) ⟨⟨⟨⟨⟨⟨⟨⟨hG50, ⟨j_84, j_85, j_86, j_87⟩, ⟨j_88, j_89, p_51, j_90, j_91⟩, by omega, by omega⟩, j_92, j_93⟩, j_94, by omega⟩, AN_a z_65⟩, by omega⟩, j_95⟩, by omega⟩, z_65⟩ (by omega) (by omega)
set_option maxRecDepth 4000 in
set_option maxHeartbeats 0 in
theorem LW_11 {X : mm_X} {d L : Nat} {M : mm_M} {Q : Option Value → mm_M → Prop} {i : Int32} {u5 u6 : Value} (hX : g_X X) (hW : g_W X) (hW2 : g_W2 X) (hL : (X 0).1 = L) (h3 : L ≤ 3072) (hd : 40 ≤ d) (hi : 0 ≤ i.toInt) (hi2 : i.toInt + 6 ≤ (L : Int)) (H : LI9 M) (h : ∀ (M1 : mm_M) (v5 v6 : Value), LI9 M1 → M1.1.2.1 ≤ M.1.2.1 + 1 → M1.1.2.2.1 ≤ M.1.2.2.1 + 6 → mm_T X d 0 1314 [.ref mm_ext, .ref 0, .ref 77, .ref 125, .int i, v5, v6] [] M1 Q) : mm_T X d 0 563 [.ref mm_ext, .ref 0, .ref 77, .ref 125, .int i, u5, u6] [] M Q := by
  obtain ⟨⟨⟨⟨⟨⟨⟨⟨hG, ⟨jPI, jNI, jQI, jPQE⟩, ⟨jFA, jWC, jNJ, jPS, jKQ⟩, jJ, jE⟩, jTP, jW9⟩, jNE, jCC⟩, -⟩, jOV⟩, jW8⟩, jNN⟩, jAN⟩ := H
  have b_1 := g_b hG (a := 77) (i := 7) (lo := 0) (hi := 500) rfl rfl
  have b_2 := g_b hG (a := 77) (i := 6) (lo := 0) (hi := 500) rfl rfl
  have b_3 := g_b hG (a := 1) (i := 1) (lo := 0) (hi := 500) rfl rfl
  have b_4 := g_b hG (a := 77) (i := 1) (lo := 0) (hi := 500) rfl rfl
  have b_5 := g_b hG (a := 0) (i := 12) (lo := 0) (hi := 30) rfl rfl
  have b_6 := g_b hG (a := 77) (i := 28) (lo := 0) (hi := 30) rfl rfl
  have b_7 := g_b hG (a := 6) (i := 0) (lo := 0) (hi := 150) rfl rfl
  have b_8 := g_b hG (a := 77) (i := 29) (lo := 0) (hi := 150) rfl rfl
  refine to_an (pc := 563) rw_0_563 rfl (to_an (pc := 564) rw_0_564 rfl (to_i (pc := 565) rw_0_565 rfl (to_c (pc := 567) rw_0_567 (x := (1 : Int32)) rfl rfl (s_add (pc := 568) rw_0_568 (A := i.toInt) (B := 1) rfl rfl (by omega) (fun v9 e10 => s_x0 (pc := 569) rw_0_569 hL (A := v9.toInt) rfl (by omega) (by omega) (fun v11 e12 => to_an (pc := 570) rw_0_570 rfl (to_i (pc := 571) rw_0_571 rfl (to_c (pc := 573) rw_0_573 (x := (2 : Int32)) rfl rfl (s_add (pc := 574) rw_0_574 (A := i.toInt) (B := 2) rfl rfl (by omega) (fun v13 e14 => s_x0 (pc := 575) rw_0_575 hL (A := v13.toInt) rfl (by omega) (by omega) (fun v15 e16 => s_v (pc := 576) rw_0_576 (dp0 hd (by decide)) (ls0 := [.ref 0, .int v11, .int v15]) rfl (Nat.le_of_ble_eq_true rfl) (Nat.le_of_ble_eq_true rfl) rfl (to_rc rfl rfl rfl (g_o hG rfl)) rfl ?_)))))))))))
  obtain ⟨pz17, pzz17, qz17, qzz17, hpz17, hpzz17, hqz17, hqzz17, hpqz17⟩ := id jPQE
  obtain ⟨sg, NN, nz, ca, hs1, hs2, hn1, hn2, hn3, hn4, hn5⟩ := AN_u jAN hpqz17
  refine E_120 hX (dp1 hd (by decide)) hG hpz17 hpzz17 hqz17 hqzz17 hpqz17 jNI jPI jQI hs1.1 (c := v11) (w := v15) (sg := sg) (p := pz17) (pz := pzz17) (q := qz17) (qz := qzz17) (fun r18 M27 hG20 F19 p_21 p_22 p_23 p_24 p_25 p_26 => ?_)
  have n_28 : M27.1.2.1 = M.1.2.1 ∧ M27.1.2.2.1 = M.1.2.2.1 := by rw [F19.1]; exact ⟨rfl, rfl⟩
  have b_30 := g_b hG20 (a := 6) (i := 0) (lo := 0) (hi := 150) rfl rfl
  have c_31 : M27.2.1 77 29 = (M.2.1 77 29) := (F_n F19 (show ¬ (6 ≤ 77 ∧ 77 ≤ 10) by decide) rfl)
  have t_32 : (M27.2.1 77 29).toInt = (M.2.1 77 29).toInt := congrArg Int32.toInt c_31
  refine to_popi (pc := 579) rw_0_579 (to_an (pc := 580) rw_0_580 rfl (to_an (pc := 581) rw_0_581 rfl (to_i (pc := 582) rw_0_582 rfl (to_c (pc := 584) rw_0_584 (x := (1 : Int32)) rfl rfl (s_addk (pc := 585) rw_0_585 (A := i.toInt) (B := 1) rfl rfl (by omega) (v := v9) e10 (s_x0k (pc := 586) rw_0_586 hL (A := v9.toInt) rfl (by omega) (by omega) (v := v11) e12 (to_an (pc := 587) rw_0_587 rfl (to_i (pc := 588) rw_0_588 rfl (to_c (pc := 590) rw_0_590 (x := (2 : Int32)) rfl rfl (s_addk (pc := 591) rw_0_591 (A := i.toInt) (B := 2) rfl rfl (by omega) (v := v13) e14 (s_x0k (pc := 592) rw_0_592 hL (A := v13.toInt) rfl (by omega) (by omega) (v := v15) e16 ?_)))))))))))
  refine s_v (pc := 593) rw_0_593 (dp0 hd (by decide)) (ls0 := [.ref 77, .int v11, .int v15]) rfl (Nat.le_of_ble_eq_true rfl) (Nat.le_of_ble_eq_true rfl) rfl (to_rc rfl rfl rfl (g_o hG20 rfl)) rfl ?_
  have c_37 : M27.2.1 77 28 = (M.2.1 77 28) := (F_n F19 (show ¬ (6 ≤ 77 ∧ 77 ≤ 10) by decide) rfl)
  have t_38 : (M27.2.1 77 28).toInt = (M.2.1 77 28).toInt := congrArg Int32.toInt c_37
  have j_39 := (NJ_f (tg_475 F19) jNJ)
  have j_40 := (PLk_f (tg_477 F19) hs2.1)
  refine E_195 hX (dp1 hd (by decide)) hG20 j_39 j_40 (c := v11) (w := v15) (sg := sg) (fun r41 M48 hG43 F42 p_44 p_45 p_46 p_47 => ?_)
  have n_49 : M48.1.2.1 = M27.1.2.1 ∧ M48.1.2.2.1 = M27.1.2.2.1 := by rw [F42.1]; exact ⟨rfl, rfl⟩
  have b_51 := g_b hG43 (a := 77) (i := 29) (lo := 0) (hi := 150) rfl rfl
  have k_52 : (0 : Int32).toInt = 0 := rfl
  have k_53 : (1 : Int32).toInt = 1 := rfl
  have k_54 : (2 : Int32).toInt = 2 := rfl
  have k_55 : (3 : Int32).toInt = 3 := rfl
  have k_56 : (4 : Int32).toInt = 4 := rfl
  have k_57 : (5 : Int32).toInt = 5 := rfl
  have z_58 := AN_n hpz17 hpqz17 hs1 hs2 hn1 hn2 hn3 hn4 hn5 F19 (fun a i z => show ¬ (6 ≤ a ∧ a ≤ 10) by omega) F42 (fun a i z => show ¬ (a = 77 ∧ (i = 2 ∨ i = 29) ∨ 90 ≤ a ∧ a ≤ 93) by omega) p_26 p_47 (by omega) (by omega) (by omega) (by omega) (fun z9 => ⟨fun z => by omega, fun z => by omega, fun z => by omega, fun z => by omega, fun z => by omega⟩)
  refine to_popi (pc := 596) rw_0_596 (to_go (pc := 597) rw_0_597 ?_)
  have c_59 : M48.2.1 77 7 = (M.2.1 77 7) := (F_n F42 (show ¬ (77 = 77 ∧ (7 = 2 ∨ 7 = 29) ∨ 90 ≤ 77 ∧ 77 ≤ 93) by decide) (F_n F19 (show ¬ (6 ≤ 77 ∧ 77 ≤ 10) by decide) rfl))
  have t_60 : (M48.2.1 77 7).toInt = (M.2.1 77 7).toInt := congrArg Int32.toInt c_59
  have c_61 : M48.2.1 77 6 = (M.2.1 77 6) := (F_n F42 (show ¬ (77 = 77 ∧ (6 = 2 ∨ 6 = 29) ∨ 90 ≤ 77 ∧ 77 ≤ 93) by decide) (F_n F19 (show ¬ (6 ≤ 77 ∧ 77 ≤ 10) by decide) rfl))
  have t_62 : (M48.2.1 77 6).toInt = (M.2.1 77 6).toInt := congrArg Int32.toInt c_61
  have c_63 : M48.2.1 1 1 = (M.2.1 1 1) := (F_n F42 (show ¬ (1 = 77 ∧ (1 = 2 ∨ 1 = 29) ∨ 90 ≤ 1 ∧ 1 ≤ 93) by decide) (F_n F19 (show ¬ (6 ≤ 1 ∧ 1 ≤ 10) by decide) rfl))
  have t_64 : (M48.2.1 1 1).toInt = (M.2.1 1 1).toInt := congrArg Int32.toInt c_63
  have c_65 : M48.2.1 77 1 = (M.2.1 77 1) := (F_n F42 (show ¬ (77 = 77 ∧ (1 = 2 ∨ 1 = 29) ∨ 90 ≤ 77 ∧ 77 ≤ 93) by decide) (F_n F19 (show ¬ (6 ≤ 77 ∧ 77 ≤ 10) by decide) rfl))
  have t_66 : (M48.2.1 77 1).toInt = (M.2.1 77 1).toInt := congrArg Int32.toInt c_65
  have c_67 : M48.2.1 0 12 = (M.2.1 0 12) := (F_n F42 (show ¬ (0 = 77 ∧ (12 = 2 ∨ 12 = 29) ∨ 90 ≤ 0 ∧ 0 ≤ 93) by decide) (F_n F19 (show ¬ (6 ≤ 0 ∧ 0 ≤ 10) by decide) rfl))
  have t_68 : (M48.2.1 0 12).toInt = (M.2.1 0 12).toInt := congrArg Int32.toInt c_67
  have c_69 : M48.2.1 77 28 = (M.2.1 77 28) := (F_n F42 (show ¬ (77 = 77 ∧ (28 = 2 ∨ 28 = 29) ∨ 90 ≤ 77 ∧ 77 ≤ 93) by decide) c_37)
  have t_70 : (M48.2.1 77 28).toInt = (M.2.1 77 28).toInt := congrArg Int32.toInt c_69
  have c_71 : M48.2.1 17 4 = (M.2.1 17 4) := (F_n F42 (show ¬ (17 = 77 ∧ (4 = 2 ∨ 4 = 29) ∨ 90 ≤ 17 ∧ 17 ≤ 93) by decide) (F_n F19 (show ¬ (6 ≤ 17 ∧ 17 ≤ 10) by decide) rfl))
  have t_72 : (M48.2.1 17 4).toInt = (M.2.1 17 4).toInt := congrArg Int32.toInt c_71
  have c_73 : M48.2.1 77 41 = (M.2.1 77 41) := (F_n F42 (show ¬ (77 = 77 ∧ (41 = 2 ∨ 41 = 29) ∨ 90 ≤ 77 ∧ 77 ≤ 93) by decide) (F_n F19 (show ¬ (6 ≤ 77 ∧ 77 ≤ 10) by decide) rfl))
  have t_74 : (M48.2.1 77 41).toInt = (M.2.1 77 41).toInt := congrArg Int32.toInt c_73
  have c_75 : M48.2.1 6 0 = (M27.2.1 6 0) := (F_n F42 (show ¬ (6 = 77 ∧ (0 = 2 ∨ 0 = 29) ∨ 90 ≤ 6 ∧ 6 ≤ 93) by decide) rfl)
  have t_76 : (M48.2.1 6 0).toInt = (M27.2.1 6 0).toInt := congrArg Int32.toInt c_75
  have j_77 := (PI_f (tg_478 F42) p_22)
  have j_78 := (NI_f (tg_479 F42) p_21)
  have j_79 := (QI_f (tg_480 F42) p_23)
  have j_80 := (PQE_r F42.2.1 (PQE_r F19.2.1 jPQE))
  have j_81 := (FA_f (tg_481 F42) (FA_f (tg_476 F19) jFA))
  have j_82 := (WC_f (tg_482 F42) (WC_f (tg_483 F19) jWC))
  have j_83 := (PS_f (tg_484 F42) (PS_f (tg_485 F19) jPS))
  have j_84 := (KQ_f (tg_486 F42) (KQ_f (tg_487 F19) jKQ))
  have j_85 := (TP_f (tg_488 F42) (TP_f (tg_489 F19) jTP))
  have j_86 := (W9_f (tg_490 F42) (W9_f (tg_491 F19) jW9))
  have j_87 := (NE_r F42.2.1 (NE_r F19.2.1 jNE))
  have j_88 := (W8_f (tg_492 F42) (W8_f (tg_493 F19) jW8))
  exact h M48 (u5) (u6) ⟨⟨⟨⟨⟨⟨⟨⟨hG43, ⟨j_77, j_78, j_79, j_80⟩, ⟨j_81, j_82, p_44, j_83, j_84⟩, by omega, by omega⟩, j_85, j_86⟩, j_87, by omega⟩, AN_a z_58⟩, by omega⟩, j_88⟩, by omega⟩, z_58⟩ (by omega) (by omega)
set_option maxRecDepth 4000 in
set_option maxHeartbeats 0 in
theorem LW_12 {X : mm_X} {d L : Nat} {M : mm_M} {Q : Option Value → mm_M → Prop} {i : Int32} {u5 u6 : Value} (hX : g_X X) (hW : g_W X) (hW2 : g_W2 X) (hL : (X 0).1 = L) (h3 : L ≤ 3072) (hd : 40 ≤ d) (hi : 0 ≤ i.toInt) (hi2 : i.toInt + 6 ≤ (L : Int)) (H : LI9 M) (h : ∀ (M1 : mm_M) (v5 v6 : Value), LI9 M1 → M1.1.2.1 ≤ M.1.2.1 + 1 → M1.1.2.2.1 ≤ M.1.2.2.1 + 6 → mm_T X d 0 1314 [.ref mm_ext, .ref 0, .ref 77, .ref 125, .int i, v5, v6] [] M1 Q) : mm_T X d 0 600 [.ref mm_ext, .ref 0, .ref 77, .ref 125, .int i, u5, u6] [] M Q := by
  obtain ⟨⟨⟨⟨⟨⟨⟨⟨hG, ⟨jPI, jNI, jQI, jPQE⟩, ⟨jFA, jWC, jNJ, jPS, jKQ⟩, jJ, jE⟩, jTP, jW9⟩, jNE, jCC⟩, -⟩, jOV⟩, jW8⟩, jNN⟩, jAN⟩ := H
  have b_1 := g_b hG (a := 77) (i := 7) (lo := 0) (hi := 500) rfl rfl
  have b_2 := g_b hG (a := 77) (i := 6) (lo := 0) (hi := 500) rfl rfl
  have b_3 := g_b hG (a := 1) (i := 1) (lo := 0) (hi := 500) rfl rfl
  have b_4 := g_b hG (a := 77) (i := 1) (lo := 0) (hi := 500) rfl rfl
  have b_5 := g_b hG (a := 0) (i := 12) (lo := 0) (hi := 30) rfl rfl
  have b_6 := g_b hG (a := 77) (i := 28) (lo := 0) (hi := 30) rfl rfl
  have b_7 := g_b hG (a := 6) (i := 0) (lo := 0) (hi := 150) rfl rfl
  have b_8 := g_b hG (a := 77) (i := 29) (lo := 0) (hi := 150) rfl rfl
  refine to_an (pc := 600) rw_0_600 rfl (to_an (pc := 601) rw_0_601 rfl (to_i (pc := 602) rw_0_602 rfl (to_c (pc := 604) rw_0_604 (x := (1 : Int32)) rfl rfl (s_add (pc := 605) rw_0_605 (A := i.toInt) (B := 1) rfl rfl (by omega) (fun v9 e10 => s_x0 (pc := 606) rw_0_606 hL (A := v9.toInt) rfl (by omega) (by omega) (fun v11 e12 => to_an (pc := 607) rw_0_607 rfl (to_i (pc := 608) rw_0_608 rfl (to_c (pc := 610) rw_0_610 (x := (2 : Int32)) rfl rfl (s_add (pc := 611) rw_0_611 (A := i.toInt) (B := 2) rfl rfl (by omega) (fun v13 e14 => s_x0 (pc := 612) rw_0_612 hL (A := v13.toInt) rfl (by omega) (by omega) (fun v15 e16 => to_an (pc := 613) rw_0_613 rfl ?_)))))))))))
  refine to_i (pc := 614) rw_0_614 rfl (to_c (pc := 616) rw_0_616 (x := (3 : Int32)) rfl rfl (s_add (pc := 617) rw_0_617 (A := i.toInt) (B := 3) rfl rfl (by omega) (fun v17 e18 => s_x0 (pc := 618) rw_0_618 hL (A := v17.toInt) rfl (by omega) (by omega) (fun v19 e20 => b_ieq (pc := 619) rw_0_619 (A := v19.toInt) rfl (fun h21 => ?_) (fun h21 => ?_)))))
  · refine to_c (pc := 626) rw_0_626 (x := (0 : Int32)) rfl rfl (s_v (pc := 627) rw_0_627 (dp0 hd (by decide)) (ls0 := [.ref 0, .int v11, .int v15, .int (0 : Int32)]) rfl (Nat.le_of_ble_eq_true rfl) (Nat.le_of_ble_eq_true rfl) rfl (to_rc rfl rfl rfl (g_o hG rfl)) rfl ?_)
    have k_22 : (0 : Int32).toInt = 0 := rfl
    obtain ⟨pz23, pzz23, qz23, qzz23, hpz23, hpzz23, hqz23, hqzz23, hpqz23⟩ := id jPQE
    obtain ⟨sg, NN, nz, ca, hs1, hs2, hn1, hn2, hn3, hn4, hn5⟩ := AN_u jAN hpqz23
    refine E_121 hX (dp1 hd (by decide)) hG hpz23 hpzz23 hqz23 hqzz23 hpqz23 (by omega) (by omega) jNI jPI jQI hs1.1 (c := v11) (e := v15) (m := (0 : Int32)) (sg := sg) (p := pz23) (pz := pzz23) (q := qz23) (qz := qzz23) (fun r24 M33 hG26 F25 p_27 p_28 p_29 p_30 p_31 p_32 => ?_)
    have n_34 : M33.1.2.1 = M.1.2.1 ∧ M33.1.2.2.1 = M.1.2.2.1 := by rw [F25.1]; exact ⟨rfl, rfl⟩
    have b_36 := g_b hG26 (a := 6) (i := 0) (lo := 0) (hi := 150) rfl rfl
    have c_37 : M33.2.1 77 29 = (M.2.1 77 29) := (F_n F25 (show ¬ (6 ≤ 77 ∧ 77 ≤ 10) by decide) rfl)
    have t_38 : (M33.2.1 77 29).toInt = (M.2.1 77 29).toInt := congrArg Int32.toInt c_37
    refine to_popi (pc := 630) rw_0_630 (to_an (pc := 631) rw_0_631 rfl (to_an (pc := 632) rw_0_632 rfl (to_i (pc := 633) rw_0_633 rfl (to_c (pc := 635) rw_0_635 (x := (1 : Int32)) rfl rfl (s_addk (pc := 636) rw_0_636 (A := i.toInt) (B := 1) rfl rfl (by omega) (v := v9) e10 (s_x0k (pc := 637) rw_0_637 hL (A := v9.toInt) rfl (by omega) (by omega) (v := v11) e12 (to_an (pc := 638) rw_0_638 rfl (to_i (pc := 639) rw_0_639 rfl (to_c (pc := 641) rw_0_641 (x := (2 : Int32)) rfl rfl (s_addk (pc := 642) rw_0_642 (A := i.toInt) (B := 2) rfl rfl (by omega) (v := v13) e14 (s_x0k (pc := 643) rw_0_643 hL (A := v13.toInt) rfl (by omega) (by omega) (v := v15) e16 ?_)))))))))))
    refine to_an (pc := 644) rw_0_644 rfl (to_i (pc := 645) rw_0_645 rfl (to_c (pc := 647) rw_0_647 (x := (3 : Int32)) rfl rfl (s_addk (pc := 648) rw_0_648 (A := i.toInt) (B := 3) rfl rfl (by omega) (v := v17) e18 (s_x0k (pc := 649) rw_0_649 hL (A := v17.toInt) rfl (by omega) (by omega) (v := v19) e20 (b_ieq_t (pc := 650) rw_0_650 (A := v19.toInt) rfl (by omega) (to_c (pc := 657) rw_0_657 (x := (0 : Int32)) rfl rfl (s_v (pc := 658) rw_0_658 (dp0 hd (by decide)) (ls0 := [.ref 77, .int v11, .int v15, .int (0 : Int32)]) rfl (Nat.le_of_ble_eq_true rfl) (Nat.le_of_ble_eq_true rfl) rfl (to_rc rfl rfl rfl (g_o hG26 rfl)) rfl ?_)))))))
    have c_45 : M33.2.1 77 28 = (M.2.1 77 28) := (F_n F25 (show ¬ (6 ≤ 77 ∧ 77 ≤ 10) by decide) rfl)
    have t_46 : (M33.2.1 77 28).toInt = (M.2.1 77 28).toInt := congrArg Int32.toInt c_45
    have j_47 := (NJ_f (tg_475 F25) jNJ)
    have j_48 := (PLk_f (tg_477 F25) hs2.1)
    refine E_196 hX (dp1 hd (by decide)) hG26 (by omega) (by omega) j_47 j_48 (c := v11) (e := v15) (m := (0 : Int32)) (sg := sg) (fun r49 M56 hG51 F50 p_52 p_53 p_54 p_55 => ?_)
    have n_57 : M56.1.2.1 = M33.1.2.1 ∧ M56.1.2.2.1 = M33.1.2.2.1 := by rw [F50.1]; exact ⟨rfl, rfl⟩
    have b_59 := g_b hG51 (a := 77) (i := 29) (lo := 0) (hi := 150) rfl rfl
    have k_60 : (1 : Int32).toInt = 1 := rfl
    have k_61 : (2 : Int32).toInt = 2 := rfl
    have k_62 : (3 : Int32).toInt = 3 := rfl
    have k_63 : (4 : Int32).toInt = 4 := rfl
    have k_64 : (5 : Int32).toInt = 5 := rfl
    have z_65 := x_tk_b (0 : Int32)
    have z_66 := AN_n hpz23 hpqz23 hs1 hs2 hn1 hn2 hn3 hn4 hn5 F25 (fun a i z => show ¬ (6 ≤ a ∧ a ≤ 10) by omega) F50 (fun a i z => show ¬ (a = 77 ∧ (i = 2 ∨ i = 29) ∨ 90 ≤ a ∧ a ≤ 93) by omega) p_32 p_55 (by omega) (by omega) (by omega) (by omega) (fun z9 => ⟨fun z => by omega, fun z => by omega, fun z => by omega, fun z => by omega, fun z => by omega⟩)
    refine to_popi (pc := 661) rw_0_661 (to_go (pc := 662) rw_0_662 ?_)
    have c_67 : M56.2.1 77 7 = (M.2.1 77 7) := (F_n F50 (show ¬ (77 = 77 ∧ (7 = 2 ∨ 7 = 29) ∨ 90 ≤ 77 ∧ 77 ≤ 93) by decide) (F_n F25 (show ¬ (6 ≤ 77 ∧ 77 ≤ 10) by decide) rfl))
    have t_68 : (M56.2.1 77 7).toInt = (M.2.1 77 7).toInt := congrArg Int32.toInt c_67
    have c_69 : M56.2.1 77 6 = (M.2.1 77 6) := (F_n F50 (show ¬ (77 = 77 ∧ (6 = 2 ∨ 6 = 29) ∨ 90 ≤ 77 ∧ 77 ≤ 93) by decide) (F_n F25 (show ¬ (6 ≤ 77 ∧ 77 ≤ 10) by decide) rfl))
    have t_70 : (M56.2.1 77 6).toInt = (M.2.1 77 6).toInt := congrArg Int32.toInt c_69
    have c_71 : M56.2.1 1 1 = (M.2.1 1 1) := (F_n F50 (show ¬ (1 = 77 ∧ (1 = 2 ∨ 1 = 29) ∨ 90 ≤ 1 ∧ 1 ≤ 93) by decide) (F_n F25 (show ¬ (6 ≤ 1 ∧ 1 ≤ 10) by decide) rfl))
    have t_72 : (M56.2.1 1 1).toInt = (M.2.1 1 1).toInt := congrArg Int32.toInt c_71
    have c_73 : M56.2.1 77 1 = (M.2.1 77 1) := (F_n F50 (show ¬ (77 = 77 ∧ (1 = 2 ∨ 1 = 29) ∨ 90 ≤ 77 ∧ 77 ≤ 93) by decide) (F_n F25 (show ¬ (6 ≤ 77 ∧ 77 ≤ 10) by decide) rfl))
    have t_74 : (M56.2.1 77 1).toInt = (M.2.1 77 1).toInt := congrArg Int32.toInt c_73
    have c_75 : M56.2.1 0 12 = (M.2.1 0 12) := (F_n F50 (show ¬ (0 = 77 ∧ (12 = 2 ∨ 12 = 29) ∨ 90 ≤ 0 ∧ 0 ≤ 93) by decide) (F_n F25 (show ¬ (6 ≤ 0 ∧ 0 ≤ 10) by decide) rfl))
    have t_76 : (M56.2.1 0 12).toInt = (M.2.1 0 12).toInt := congrArg Int32.toInt c_75
    have c_77 : M56.2.1 77 28 = (M.2.1 77 28) := (F_n F50 (show ¬ (77 = 77 ∧ (28 = 2 ∨ 28 = 29) ∨ 90 ≤ 77 ∧ 77 ≤ 93) by decide) c_45)
    have t_78 : (M56.2.1 77 28).toInt = (M.2.1 77 28).toInt := congrArg Int32.toInt c_77
    have c_79 : M56.2.1 17 4 = (M.2.1 17 4) := (F_n F50 (show ¬ (17 = 77 ∧ (4 = 2 ∨ 4 = 29) ∨ 90 ≤ 17 ∧ 17 ≤ 93) by decide) (F_n F25 (show ¬ (6 ≤ 17 ∧ 17 ≤ 10) by decide) rfl))
    have t_80 : (M56.2.1 17 4).toInt = (M.2.1 17 4).toInt := congrArg Int32.toInt c_79
    have c_81 : M56.2.1 77 41 = (M.2.1 77 41) := (F_n F50 (show ¬ (77 = 77 ∧ (41 = 2 ∨ 41 = 29) ∨ 90 ≤ 77 ∧ 77 ≤ 93) by decide) (F_n F25 (show ¬ (6 ≤ 77 ∧ 77 ≤ 10) by decide) rfl))
    have t_82 : (M56.2.1 77 41).toInt = (M.2.1 77 41).toInt := congrArg Int32.toInt c_81
    have c_83 : M56.2.1 6 0 = (M33.2.1 6 0) := (F_n F50 (show ¬ (6 = 77 ∧ (0 = 2 ∨ 0 = 29) ∨ 90 ≤ 6 ∧ 6 ≤ 93) by decide) rfl)
    have t_84 : (M56.2.1 6 0).toInt = (M33.2.1 6 0).toInt := congrArg Int32.toInt c_83
    have j_85 := (PI_f (tg_478 F50) p_28)
    have j_86 := (NI_f (tg_479 F50) p_27)
    have j_87 := (QI_f (tg_480 F50) p_29)
    have j_88 := (PQE_r F50.2.1 (PQE_r F25.2.1 jPQE))
    have j_89 := (FA_f (tg_481 F50) (FA_f (tg_476 F25) jFA))
    have j_90 := (WC_f (tg_482 F50) (WC_f (tg_483 F25) jWC))
    have j_91 := (PS_f (tg_484 F50) (PS_f (tg_485 F25) jPS))
    have j_92 := (KQ_f (tg_486 F50) (KQ_f (tg_487 F25) jKQ))
    have j_93 := (TP_f (tg_488 F50) (TP_f (tg_489 F25) jTP))
    have j_94 := (W9_f (tg_490 F50) (W9_f (tg_491 F25) jW9))
    have j_95 := (NE_r F50.2.1 (NE_r F25.2.1 jNE))
    have j_96 := (W8_f (tg_492 F50) (W8_f (tg_493 F25) jW8))
    exact h M56 (u5) (u6) ⟨⟨⟨⟨⟨⟨⟨⟨hG51, ⟨j_85, j_86, j_87, j_88⟩, ⟨j_89, j_90, p_52, j_91, j_92⟩, by omega, by omega⟩, j_93, j_94⟩, j_95, by omega⟩, AN_a z_66⟩, by omega⟩, j_96⟩, by omega⟩, z_66⟩ (by omega) (by omega)
  · refine to_c (pc := 622) rw_0_622 (x := (1 : Int32)) rfl rfl (to_go (pc := 623) rw_0_623 (s_v (pc := 627) rw_0_627 (dp0 hd (by decide)) (ls0 := [.ref 0, .int v11, .int v15, .int (1 : Int32)]) rfl (Nat.le_of_ble_eq_true rfl) (Nat.le_of_ble_eq_true rfl) rfl (to_rc rfl rfl rfl (g_o hG rfl)) rfl ?_))
    have k_97 : (1 : Int32).toInt = 1 := rfl
    obtain ⟨pz98, pzz98, qz98, qzz98, hpz98, hpzz98, hqz98, hqzz98, hpqz98⟩ := id jPQE
    obtain ⟨sg, NN, nz, ca, hs1, hs2, hn1, hn2, hn3, hn4, hn5⟩ := AN_u jAN hpqz98
    refine E_121 hX (dp1 hd (by decide)) hG hpz98 hpzz98 hqz98 hqzz98 hpqz98 (by omega) (by omega) jNI jPI jQI hs1.1 (c := v11) (e := v15) (m := (1 : Int32)) (sg := sg) (p := pz98) (pz := pzz98) (q := qz98) (qz := qzz98) (fun r99 M108 hG101 F100 p_102 p_103 p_104 p_105 p_106 p_107 => ?_)
    have n_109 : M108.1.2.1 = M.1.2.1 ∧ M108.1.2.2.1 = M.1.2.2.1 := by rw [F100.1]; exact ⟨rfl, rfl⟩
    have b_111 := g_b hG101 (a := 6) (i := 0) (lo := 0) (hi := 150) rfl rfl
    have c_112 : M108.2.1 77 29 = (M.2.1 77 29) := (F_n F100 (show ¬ (6 ≤ 77 ∧ 77 ≤ 10) by decide) rfl)
    have t_113 : (M108.2.1 77 29).toInt = (M.2.1 77 29).toInt := congrArg Int32.toInt c_112
    refine to_popi (pc := 630) rw_0_630 (to_an (pc := 631) rw_0_631 rfl (to_an (pc := 632) rw_0_632 rfl (to_i (pc := 633) rw_0_633 rfl (to_c (pc := 635) rw_0_635 (x := (1 : Int32)) rfl rfl (s_addk (pc := 636) rw_0_636 (A := i.toInt) (B := 1) rfl rfl (by omega) (v := v9) e10 (s_x0k (pc := 637) rw_0_637 hL (A := v9.toInt) rfl (by omega) (by omega) (v := v11) e12 (to_an (pc := 638) rw_0_638 rfl (to_i (pc := 639) rw_0_639 rfl (to_c (pc := 641) rw_0_641 (x := (2 : Int32)) rfl rfl (s_addk (pc := 642) rw_0_642 (A := i.toInt) (B := 2) rfl rfl (by omega) (v := v13) e14 (s_x0k (pc := 643) rw_0_643 hL (A := v13.toInt) rfl (by omega) (by omega) (v := v15) e16 ?_)))))))))))
    refine to_an (pc := 644) rw_0_644 rfl (to_i (pc := 645) rw_0_645 rfl (to_c (pc := 647) rw_0_647 (x := (3 : Int32)) rfl rfl (s_addk (pc := 648) rw_0_648 (A := i.toInt) (B := 3) rfl rfl (by omega) (v := v17) e18 (s_x0k (pc := 649) rw_0_649 hL (A := v17.toInt) rfl (by omega) (by omega) (v := v19) e20 (b_ieq (pc := 650) rw_0_650 (A := v19.toInt) rfl (fun h120 => ?_) (fun h120 => ?_))))))
    · refine to_c (pc := 657) rw_0_657 (x := (0 : Int32)) rfl rfl (s_v (pc := 658) rw_0_658 (dp0 hd (by decide)) (ls0 := [.ref 77, .int v11, .int v15, .int (0 : Int32)]) rfl (Nat.le_of_ble_eq_true rfl) (Nat.le_of_ble_eq_true rfl) rfl (to_rc rfl rfl rfl (g_o hG101 rfl)) rfl ?_)
      have k_121 : (0 : Int32).toInt = 0 := rfl
      have c_122 : M108.2.1 77 28 = (M.2.1 77 28) := (F_n F100 (show ¬ (6 ≤ 77 ∧ 77 ≤ 10) by decide) rfl)
      have t_123 : (M108.2.1 77 28).toInt = (M.2.1 77 28).toInt := congrArg Int32.toInt c_122
      have j_124 := (NJ_f (tg_475 F100) jNJ)
      have j_125 := (PLk_f (tg_477 F100) hs2.1)
      refine E_196 hX (dp1 hd (by decide)) hG101 (by omega) (by omega) j_124 j_125 (c := v11) (e := v15) (m := (0 : Int32)) (sg := sg) (fun r126 M133 hG128 F127 p_129 p_130 p_131 p_132 => ?_)
      have n_134 : M133.1.2.1 = M108.1.2.1 ∧ M133.1.2.2.1 = M108.1.2.2.1 := by rw [F127.1]; exact ⟨rfl, rfl⟩
      have b_136 := g_b hG128 (a := 77) (i := 29) (lo := 0) (hi := 150) rfl rfl
      have k_137 : (2 : Int32).toInt = 2 := rfl
      have k_138 : (3 : Int32).toInt = 3 := rfl
      have k_139 : (4 : Int32).toInt = 4 := rfl
      have k_140 : (5 : Int32).toInt = 5 := rfl
      have z_141 := x_tk_b (0 : Int32)
      have z_142 : AN M133 := by exfalso; omega
      refine to_popi (pc := 661) rw_0_661 (to_go (pc := 662) rw_0_662 ?_)
      have c_143 : M133.2.1 77 7 = (M.2.1 77 7) := (F_n F127 (show ¬ (77 = 77 ∧ (7 = 2 ∨ 7 = 29) ∨ 90 ≤ 77 ∧ 77 ≤ 93) by decide) (F_n F100 (show ¬ (6 ≤ 77 ∧ 77 ≤ 10) by decide) rfl))
      have t_144 : (M133.2.1 77 7).toInt = (M.2.1 77 7).toInt := congrArg Int32.toInt c_143
      have c_145 : M133.2.1 77 6 = (M.2.1 77 6) := (F_n F127 (show ¬ (77 = 77 ∧ (6 = 2 ∨ 6 = 29) ∨ 90 ≤ 77 ∧ 77 ≤ 93) by decide) (F_n F100 (show ¬ (6 ≤ 77 ∧ 77 ≤ 10) by decide) rfl))
      have t_146 : (M133.2.1 77 6).toInt = (M.2.1 77 6).toInt := congrArg Int32.toInt c_145
      have c_147 : M133.2.1 1 1 = (M.2.1 1 1) := (F_n F127 (show ¬ (1 = 77 ∧ (1 = 2 ∨ 1 = 29) ∨ 90 ≤ 1 ∧ 1 ≤ 93) by decide) (F_n F100 (show ¬ (6 ≤ 1 ∧ 1 ≤ 10) by decide) rfl))
      have t_148 : (M133.2.1 1 1).toInt = (M.2.1 1 1).toInt := congrArg Int32.toInt c_147
      have c_149 : M133.2.1 77 1 = (M.2.1 77 1) := (F_n F127 (show ¬ (77 = 77 ∧ (1 = 2 ∨ 1 = 29) ∨ 90 ≤ 77 ∧ 77 ≤ 93) by decide) (F_n F100 (show ¬ (6 ≤ 77 ∧ 77 ≤ 10) by decide) rfl))
      have t_150 : (M133.2.1 77 1).toInt = (M.2.1 77 1).toInt := congrArg Int32.toInt c_149
      have c_151 : M133.2.1 0 12 = (M.2.1 0 12) := (F_n F127 (show ¬ (0 = 77 ∧ (12 = 2 ∨ 12 = 29) ∨ 90 ≤ 0 ∧ 0 ≤ 93) by decide) (F_n F100 (show ¬ (6 ≤ 0 ∧ 0 ≤ 10) by decide) rfl))
      have t_152 : (M133.2.1 0 12).toInt = (M.2.1 0 12).toInt := congrArg Int32.toInt c_151
      have c_153 : M133.2.1 77 28 = (M.2.1 77 28) := (F_n F127 (show ¬ (77 = 77 ∧ (28 = 2 ∨ 28 = 29) ∨ 90 ≤ 77 ∧ 77 ≤ 93) by decide) c_122)
      have t_154 : (M133.2.1 77 28).toInt = (M.2.1 77 28).toInt := congrArg Int32.toInt c_153
      have c_155 : M133.2.1 17 4 = (M.2.1 17 4) := (F_n F127 (show ¬ (17 = 77 ∧ (4 = 2 ∨ 4 = 29) ∨ 90 ≤ 17 ∧ 17 ≤ 93) by decide) (F_n F100 (show ¬ (6 ≤ 17 ∧ 17 ≤ 10) by decide) rfl))
      have t_156 : (M133.2.1 17 4).toInt = (M.2.1 17 4).toInt := congrArg Int32.toInt c_155
      have c_157 : M133.2.1 77 41 = (M.2.1 77 41) := (F_n F127 (show ¬ (77 = 77 ∧ (41 = 2 ∨ 41 = 29) ∨ 90 ≤ 77 ∧ 77 ≤ 93) by decide) (F_n F100 (show ¬ (6 ≤ 77 ∧ 77 ≤ 10) by decide) rfl))
      have t_158 : (M133.2.1 77 41).toInt = (M.2.1 77 41).toInt := congrArg Int32.toInt c_157
      have c_159 : M133.2.1 6 0 = (M108.2.1 6 0) := (F_n F127 (show ¬ (6 = 77 ∧ (0 = 2 ∨ 0 = 29) ∨ 90 ≤ 6 ∧ 6 ≤ 93) by decide) rfl)
      have t_160 : (M133.2.1 6 0).toInt = (M108.2.1 6 0).toInt := congrArg Int32.toInt c_159
      have j_161 := (PI_f (tg_478 F127) p_103)
      have j_162 := (NI_f (tg_479 F127) p_102)
      have j_163 := (QI_f (tg_480 F127) p_104)
      have j_164 := (PQE_r F127.2.1 (PQE_r F100.2.1 jPQE))
      have j_165 := (FA_f (tg_481 F127) (FA_f (tg_476 F100) jFA))
      have j_166 := (WC_f (tg_482 F127) (WC_f (tg_483 F100) jWC))
      have j_167 := (PS_f (tg_484 F127) (PS_f (tg_485 F100) jPS))
      have j_168 := (KQ_f (tg_486 F127) (KQ_f (tg_487 F100) jKQ))
      have j_169 := (TP_f (tg_488 F127) (TP_f (tg_489 F100) jTP))
      have j_170 := (W9_f (tg_490 F127) (W9_f (tg_491 F100) jW9))
      have j_171 := (NE_r F127.2.1 (NE_r F100.2.1 jNE))
      have j_172 := (W8_f (tg_492 F127) (W8_f (tg_493 F100) jW8))
      exact h M133 (u5) (u6) ⟨⟨⟨⟨⟨⟨⟨⟨hG128, ⟨j_161, j_162, j_163, j_164⟩, ⟨j_165, j_166, p_129, j_167, j_168⟩, by omega, by omega⟩, j_169, j_170⟩, j_171, by omega⟩, AN_a z_142⟩, by omega⟩, j_172⟩, by omega⟩, z_142⟩ (by omega) (by omega)
    · refine to_c (pc := 653) rw_0_653 (x := (1 : Int32)) rfl rfl (to_go (pc := 654) rw_0_654 (s_v (pc := 658) rw_0_658 (dp0 hd (by decide)) (ls0 := [.ref 77, .int v11, .int v15, .int (1 : Int32)]) rfl (Nat.le_of_ble_eq_true rfl) (Nat.le_of_ble_eq_true rfl) rfl (to_rc rfl rfl rfl (g_o hG101 rfl)) rfl ?_))
      have c_173 : M108.2.1 77 28 = (M.2.1 77 28) := (F_n F100 (show ¬ (6 ≤ 77 ∧ 77 ≤ 10) by decide) rfl)
      have t_174 : (M108.2.1 77 28).toInt = (M.2.1 77 28).toInt := congrArg Int32.toInt c_173
      have j_175 := (NJ_f (tg_475 F100) jNJ)
      have j_176 := (PLk_f (tg_477 F100) hs2.1)
      refine E_196 hX (dp1 hd (by decide)) hG101 (by omega) (by omega) j_175 j_176 (c := v11) (e := v15) (m := (1 : Int32)) (sg := sg) (fun r177 M184 hG179 F178 p_180 p_181 p_182 p_183 => ?_)
      have n_185 : M184.1.2.1 = M108.1.2.1 ∧ M184.1.2.2.1 = M108.1.2.2.1 := by rw [F178.1]; exact ⟨rfl, rfl⟩
      have b_187 := g_b hG179 (a := 77) (i := 29) (lo := 0) (hi := 150) rfl rfl
      have k_188 : (0 : Int32).toInt = 0 := rfl
      have k_189 : (2 : Int32).toInt = 2 := rfl
      have k_190 : (3 : Int32).toInt = 3 := rfl
      have k_191 : (4 : Int32).toInt = 4 := rfl
      have k_192 : (5 : Int32).toInt = 5 := rfl
      have z_193 := x_tk_b (1 : Int32)
      have z_194 := AN_n hpz98 hpqz98 hs1 hs2 hn1 hn2 hn3 hn4 hn5 F100 (fun a i z => show ¬ (6 ≤ a ∧ a ≤ 10) by omega) F178 (fun a i z => show ¬ (a = 77 ∧ (i = 2 ∨ i = 29) ∨ 90 ≤ a ∧ a ≤ 93) by omega) p_107 p_183 (by omega) (by omega) (by omega) (by omega) (fun z9 => ⟨fun z => by omega, fun z => by omega, fun z => by omega, fun z => by omega, fun z => by omega⟩)
      refine to_popi (pc := 661) rw_0_661 (to_go (pc := 662) rw_0_662 ?_)
      have c_195 : M184.2.1 77 7 = (M.2.1 77 7) := (F_n F178 (show ¬ (77 = 77 ∧ (7 = 2 ∨ 7 = 29) ∨ 90 ≤ 77 ∧ 77 ≤ 93) by decide) (F_n F100 (show ¬ (6 ≤ 77 ∧ 77 ≤ 10) by decide) rfl))
      have t_196 : (M184.2.1 77 7).toInt = (M.2.1 77 7).toInt := congrArg Int32.toInt c_195
      have c_197 : M184.2.1 77 6 = (M.2.1 77 6) := (F_n F178 (show ¬ (77 = 77 ∧ (6 = 2 ∨ 6 = 29) ∨ 90 ≤ 77 ∧ 77 ≤ 93) by decide) (F_n F100 (show ¬ (6 ≤ 77 ∧ 77 ≤ 10) by decide) rfl))
      have t_198 : (M184.2.1 77 6).toInt = (M.2.1 77 6).toInt := congrArg Int32.toInt c_197
      have c_199 : M184.2.1 1 1 = (M.2.1 1 1) := (F_n F178 (show ¬ (1 = 77 ∧ (1 = 2 ∨ 1 = 29) ∨ 90 ≤ 1 ∧ 1 ≤ 93) by decide) (F_n F100 (show ¬ (6 ≤ 1 ∧ 1 ≤ 10) by decide) rfl))
      have t_200 : (M184.2.1 1 1).toInt = (M.2.1 1 1).toInt := congrArg Int32.toInt c_199
      have c_201 : M184.2.1 77 1 = (M.2.1 77 1) := (F_n F178 (show ¬ (77 = 77 ∧ (1 = 2 ∨ 1 = 29) ∨ 90 ≤ 77 ∧ 77 ≤ 93) by decide) (F_n F100 (show ¬ (6 ≤ 77 ∧ 77 ≤ 10) by decide) rfl))
      have t_202 : (M184.2.1 77 1).toInt = (M.2.1 77 1).toInt := congrArg Int32.toInt c_201
      have c_203 : M184.2.1 0 12 = (M.2.1 0 12) := (F_n F178 (show ¬ (0 = 77 ∧ (12 = 2 ∨ 12 = 29) ∨ 90 ≤ 0 ∧ 0 ≤ 93) by decide) (F_n F100 (show ¬ (6 ≤ 0 ∧ 0 ≤ 10) by decide) rfl))
      have t_204 : (M184.2.1 0 12).toInt = (M.2.1 0 12).toInt := congrArg Int32.toInt c_203
      have c_205 : M184.2.1 77 28 = (M.2.1 77 28) := (F_n F178 (show ¬ (77 = 77 ∧ (28 = 2 ∨ 28 = 29) ∨ 90 ≤ 77 ∧ 77 ≤ 93) by decide) c_173)
      have t_206 : (M184.2.1 77 28).toInt = (M.2.1 77 28).toInt := congrArg Int32.toInt c_205
      have c_207 : M184.2.1 17 4 = (M.2.1 17 4) := (F_n F178 (show ¬ (17 = 77 ∧ (4 = 2 ∨ 4 = 29) ∨ 90 ≤ 17 ∧ 17 ≤ 93) by decide) (F_n F100 (show ¬ (6 ≤ 17 ∧ 17 ≤ 10) by decide) rfl))
      have t_208 : (M184.2.1 17 4).toInt = (M.2.1 17 4).toInt := congrArg Int32.toInt c_207
      have c_209 : M184.2.1 77 41 = (M.2.1 77 41) := (F_n F178 (show ¬ (77 = 77 ∧ (41 = 2 ∨ 41 = 29) ∨ 90 ≤ 77 ∧ 77 ≤ 93) by decide) (F_n F100 (show ¬ (6 ≤ 77 ∧ 77 ≤ 10) by decide) rfl))
      have t_210 : (M184.2.1 77 41).toInt = (M.2.1 77 41).toInt := congrArg Int32.toInt c_209
      have c_211 : M184.2.1 6 0 = (M108.2.1 6 0) := (F_n F178 (show ¬ (6 = 77 ∧ (0 = 2 ∨ 0 = 29) ∨ 90 ≤ 6 ∧ 6 ≤ 93) by decide) rfl)
      have t_212 : (M184.2.1 6 0).toInt = (M108.2.1 6 0).toInt := congrArg Int32.toInt c_211
      have j_213 := (PI_f (tg_478 F178) p_103)
      have j_214 := (NI_f (tg_479 F178) p_102)
      have j_215 := (QI_f (tg_480 F178) p_104)
      have j_216 := (PQE_r F178.2.1 (PQE_r F100.2.1 jPQE))
      have j_217 := (FA_f (tg_481 F178) (FA_f (tg_476 F100) jFA))
      have j_218 := (WC_f (tg_482 F178) (WC_f (tg_483 F100) jWC))
      have j_219 := (PS_f (tg_484 F178) (PS_f (tg_485 F100) jPS))
      have j_220 := (KQ_f (tg_486 F178) (KQ_f (tg_487 F100) jKQ))
      have j_221 := (TP_f (tg_488 F178) (TP_f (tg_489 F100) jTP))
      have j_222 := (W9_f (tg_490 F178) (W9_f (tg_491 F100) jW9))
      have j_223 := (NE_r F178.2.1 (NE_r F100.2.1 jNE))
      have j_224 := (W8_f (tg_492 F178) (W8_f (tg_493 F100) jW8))
      exact h M184 (u5) (u6) ⟨⟨⟨⟨⟨⟨⟨⟨hG179, ⟨j_213, j_214, j_215, j_216⟩, ⟨j_217, j_218, p_180, j_219, j_220⟩, by omega, by omega⟩, j_221, j_222⟩, j_223, by omega⟩, AN_a z_194⟩, by omega⟩, j_224⟩, by omega⟩, z_194⟩ (by omega) (by omega)
set_option maxRecDepth 4000 in
set_option maxHeartbeats 0 in
theorem LW_13 {X : mm_X} {d L : Nat} {M : mm_M} {Q : Option Value → mm_M → Prop} {i : Int32} {u5 u6 : Value} (hX : g_X X) (hW : g_W X) (hW2 : g_W2 X) (hL : (X 0).1 = L) (h3 : L ≤ 3072) (hd : 40 ≤ d) (hi : 0 ≤ i.toInt) (hi2 : i.toInt + 6 ≤ (L : Int)) (H : LI9 M) (h : ∀ (M1 : mm_M) (v5 v6 : Value), LI9 M1 → M1.1.2.1 ≤ M.1.2.1 + 1 → M1.1.2.2.1 ≤ M.1.2.2.1 + 6 → mm_T X d 0 1314 [.ref mm_ext, .ref 0, .ref 77, .ref 125, .int i, v5, v6] [] M1 Q) : mm_T X d 0 665 [.ref mm_ext, .ref 0, .ref 77, .ref 125, .int i, u5, u6] [] M Q := by
  obtain ⟨⟨⟨⟨⟨⟨⟨⟨hG, ⟨jPI, jNI, jQI, jPQE⟩, ⟨jFA, jWC, jNJ, jPS, jKQ⟩, jJ, jE⟩, jTP, jW9⟩, jNE, jCC⟩, -⟩, jOV⟩, jW8⟩, jNN⟩, jAN⟩ := H
  have b_1 := g_b hG (a := 77) (i := 7) (lo := 0) (hi := 500) rfl rfl
  have b_2 := g_b hG (a := 77) (i := 6) (lo := 0) (hi := 500) rfl rfl
  have b_3 := g_b hG (a := 1) (i := 1) (lo := 0) (hi := 500) rfl rfl
  have b_4 := g_b hG (a := 77) (i := 1) (lo := 0) (hi := 500) rfl rfl
  have b_5 := g_b hG (a := 0) (i := 12) (lo := 0) (hi := 30) rfl rfl
  have b_6 := g_b hG (a := 77) (i := 28) (lo := 0) (hi := 30) rfl rfl
  have b_7 := g_b hG (a := 6) (i := 0) (lo := 0) (hi := 150) rfl rfl
  have b_8 := g_b hG (a := 77) (i := 29) (lo := 0) (hi := 150) rfl rfl
  refine to_an (pc := 665) rw_0_665 rfl (to_an (pc := 666) rw_0_666 rfl (to_i (pc := 667) rw_0_667 rfl (to_c (pc := 669) rw_0_669 (x := (1 : Int32)) rfl rfl (s_add (pc := 670) rw_0_670 (A := i.toInt) (B := 1) rfl rfl (by omega) (fun v9 e10 => s_x0 (pc := 671) rw_0_671 hL (A := v9.toInt) rfl (by omega) (by omega) (fun v11 e12 => to_an (pc := 672) rw_0_672 rfl (to_i (pc := 673) rw_0_673 rfl (to_c (pc := 675) rw_0_675 (x := (2 : Int32)) rfl rfl (s_add (pc := 676) rw_0_676 (A := i.toInt) (B := 2) rfl rfl (by omega) (fun v13 e14 => s_x0 (pc := 677) rw_0_677 hL (A := v13.toInt) rfl (by omega) (by omega) (fun v15 e16 => s_v (pc := 678) rw_0_678 (dp0 hd (by decide)) (ls0 := [.ref 0, .int v11, .int v15]) rfl (Nat.le_of_ble_eq_true rfl) (Nat.le_of_ble_eq_true rfl) rfl (to_rc rfl rfl rfl (g_o hG rfl)) rfl ?_)))))))))))
  obtain ⟨pz17, pzz17, qz17, qzz17, hpz17, hpzz17, hqz17, hqzz17, hpqz17⟩ := id jPQE
  obtain ⟨sg, NN, nz, ca, hs1, hs2, hn1, hn2, hn3, hn4, hn5⟩ := AN_u jAN hpqz17
  refine E_122 hX (dp1 hd (by decide)) hG hpz17 hpzz17 hqz17 hqzz17 hpqz17 jNI jPI jQI hs1.1 (w := v11) (b := v15) (sg := sg) (p := pz17) (pz := pzz17) (q := qz17) (qz := qzz17) (fun r18 M27 hG20 F19 p_21 p_22 p_23 p_24 p_25 p_26 => ?_)
  have n_28 : M27.1.2.1 = M.1.2.1 ∧ M27.1.2.2.1 = M.1.2.2.1 := by rw [F19.1]; exact ⟨rfl, rfl⟩
  have b_30 := g_b hG20 (a := 6) (i := 0) (lo := 0) (hi := 150) rfl rfl
  have c_31 : M27.2.1 77 29 = (M.2.1 77 29) := (F_n F19 (show ¬ (6 ≤ 77 ∧ 77 ≤ 10) by decide) rfl)
  have t_32 : (M27.2.1 77 29).toInt = (M.2.1 77 29).toInt := congrArg Int32.toInt c_31
  refine to_popi (pc := 681) rw_0_681 (to_an (pc := 682) rw_0_682 rfl (to_an (pc := 683) rw_0_683 rfl (to_i (pc := 684) rw_0_684 rfl (to_c (pc := 686) rw_0_686 (x := (1 : Int32)) rfl rfl (s_addk (pc := 687) rw_0_687 (A := i.toInt) (B := 1) rfl rfl (by omega) (v := v9) e10 (s_x0k (pc := 688) rw_0_688 hL (A := v9.toInt) rfl (by omega) (by omega) (v := v11) e12 (to_an (pc := 689) rw_0_689 rfl (to_i (pc := 690) rw_0_690 rfl (to_c (pc := 692) rw_0_692 (x := (2 : Int32)) rfl rfl (s_addk (pc := 693) rw_0_693 (A := i.toInt) (B := 2) rfl rfl (by omega) (v := v13) e14 (s_x0k (pc := 694) rw_0_694 hL (A := v13.toInt) rfl (by omega) (by omega) (v := v15) e16 ?_)))))))))))
  refine s_v (pc := 695) rw_0_695 (dp0 hd (by decide)) (ls0 := [.ref 77, .int v11, .int v15]) rfl (Nat.le_of_ble_eq_true rfl) (Nat.le_of_ble_eq_true rfl) rfl (to_rc rfl rfl rfl (g_o hG20 rfl)) rfl ?_
  have j_37 := (NJ_f (tg_475 F19) jNJ)
  have j_38 := (PLk_f (tg_477 F19) hs2.1)
  refine E_198 hX (dp1 hd (by decide)) hG20 j_37 j_38 (w := v11) (b := v15) (sg := sg) (fun r39 M46 hG41 F40 p_42 p_43 p_44 p_45 => ?_)
  have n_47 : M46.1.2.1 = M27.1.2.1 ∧ M46.1.2.2.1 = M27.1.2.2.1 := by rw [F40.1]; exact ⟨rfl, rfl⟩
  have b_49 := g_b hG41 (a := 77) (i := 29) (lo := 0) (hi := 150) rfl rfl
  have k_50 : (0 : Int32).toInt = 0 := rfl
  have k_51 : (1 : Int32).toInt = 1 := rfl
  have k_52 : (2 : Int32).toInt = 2 := rfl
  have k_53 : (3 : Int32).toInt = 3 := rfl
  have k_54 : (4 : Int32).toInt = 4 := rfl
  have k_55 : (5 : Int32).toInt = 5 := rfl
  have z_56 := AN_n hpz17 hpqz17 hs1 hs2 hn1 hn2 hn3 hn4 hn5 F19 (fun a i z => show ¬ (6 ≤ a ∧ a ≤ 10) by omega) F40 (fun a i z => show ¬ (a = 77 ∧ (i = 2 ∨ i = 29) ∨ 90 ≤ a ∧ a ≤ 93) by omega) p_26 p_45 (by omega) (by omega) (by omega) (by omega) (fun z9 => ⟨fun z => by omega, fun z => by omega, fun z => by omega, fun z => by omega, fun z => by omega⟩)
  refine to_popi (pc := 698) rw_0_698 (to_go (pc := 699) rw_0_699 ?_)
  have c_57 : M46.2.1 77 7 = (M.2.1 77 7) := (F_n F40 (show ¬ (77 = 77 ∧ (7 = 2 ∨ 7 = 29) ∨ 90 ≤ 77 ∧ 77 ≤ 93) by decide) (F_n F19 (show ¬ (6 ≤ 77 ∧ 77 ≤ 10) by decide) rfl))
  have t_58 : (M46.2.1 77 7).toInt = (M.2.1 77 7).toInt := congrArg Int32.toInt c_57
  have c_59 : M46.2.1 77 6 = (M.2.1 77 6) := (F_n F40 (show ¬ (77 = 77 ∧ (6 = 2 ∨ 6 = 29) ∨ 90 ≤ 77 ∧ 77 ≤ 93) by decide) (F_n F19 (show ¬ (6 ≤ 77 ∧ 77 ≤ 10) by decide) rfl))
  have t_60 : (M46.2.1 77 6).toInt = (M.2.1 77 6).toInt := congrArg Int32.toInt c_59
  have c_61 : M46.2.1 1 1 = (M.2.1 1 1) := (F_n F40 (show ¬ (1 = 77 ∧ (1 = 2 ∨ 1 = 29) ∨ 90 ≤ 1 ∧ 1 ≤ 93) by decide) (F_n F19 (show ¬ (6 ≤ 1 ∧ 1 ≤ 10) by decide) rfl))
  have t_62 : (M46.2.1 1 1).toInt = (M.2.1 1 1).toInt := congrArg Int32.toInt c_61
  have c_63 : M46.2.1 77 1 = (M.2.1 77 1) := (F_n F40 (show ¬ (77 = 77 ∧ (1 = 2 ∨ 1 = 29) ∨ 90 ≤ 77 ∧ 77 ≤ 93) by decide) (F_n F19 (show ¬ (6 ≤ 77 ∧ 77 ≤ 10) by decide) rfl))
  have t_64 : (M46.2.1 77 1).toInt = (M.2.1 77 1).toInt := congrArg Int32.toInt c_63
  have c_65 : M46.2.1 0 12 = (M.2.1 0 12) := (F_n F40 (show ¬ (0 = 77 ∧ (12 = 2 ∨ 12 = 29) ∨ 90 ≤ 0 ∧ 0 ≤ 93) by decide) (F_n F19 (show ¬ (6 ≤ 0 ∧ 0 ≤ 10) by decide) rfl))
  have t_66 : (M46.2.1 0 12).toInt = (M.2.1 0 12).toInt := congrArg Int32.toInt c_65
  have c_67 : M46.2.1 77 28 = (M.2.1 77 28) := (F_n F40 (show ¬ (77 = 77 ∧ (28 = 2 ∨ 28 = 29) ∨ 90 ≤ 77 ∧ 77 ≤ 93) by decide) (F_n F19 (show ¬ (6 ≤ 77 ∧ 77 ≤ 10) by decide) rfl))
  have t_68 : (M46.2.1 77 28).toInt = (M.2.1 77 28).toInt := congrArg Int32.toInt c_67
  have c_69 : M46.2.1 17 4 = (M.2.1 17 4) := (F_n F40 (show ¬ (17 = 77 ∧ (4 = 2 ∨ 4 = 29) ∨ 90 ≤ 17 ∧ 17 ≤ 93) by decide) (F_n F19 (show ¬ (6 ≤ 17 ∧ 17 ≤ 10) by decide) rfl))
  have t_70 : (M46.2.1 17 4).toInt = (M.2.1 17 4).toInt := congrArg Int32.toInt c_69
  have c_71 : M46.2.1 77 41 = (M.2.1 77 41) := (F_n F40 (show ¬ (77 = 77 ∧ (41 = 2 ∨ 41 = 29) ∨ 90 ≤ 77 ∧ 77 ≤ 93) by decide) (F_n F19 (show ¬ (6 ≤ 77 ∧ 77 ≤ 10) by decide) rfl))
  have t_72 : (M46.2.1 77 41).toInt = (M.2.1 77 41).toInt := congrArg Int32.toInt c_71
  have c_73 : M46.2.1 6 0 = (M27.2.1 6 0) := (F_n F40 (show ¬ (6 = 77 ∧ (0 = 2 ∨ 0 = 29) ∨ 90 ≤ 6 ∧ 6 ≤ 93) by decide) rfl)
  have t_74 : (M46.2.1 6 0).toInt = (M27.2.1 6 0).toInt := congrArg Int32.toInt c_73
  have j_75 := (PI_f (tg_478 F40) p_22)
  have j_76 := (NI_f (tg_479 F40) p_21)
  have j_77 := (QI_f (tg_480 F40) p_23)
  have j_78 := (PQE_r F40.2.1 (PQE_r F19.2.1 jPQE))
  have j_79 := (FA_f (tg_481 F40) (FA_f (tg_476 F19) jFA))
  have j_80 := (WC_f (tg_482 F40) (WC_f (tg_483 F19) jWC))
  have j_81 := (PS_f (tg_484 F40) (PS_f (tg_485 F19) jPS))
  have j_82 := (KQ_f (tg_486 F40) (KQ_f (tg_487 F19) jKQ))
  have j_83 := (TP_f (tg_488 F40) (TP_f (tg_489 F19) jTP))
  have j_84 := (W9_f (tg_490 F40) (W9_f (tg_491 F19) jW9))
  have j_85 := (NE_r F40.2.1 (NE_r F19.2.1 jNE))
  have j_86 := (W8_f (tg_492 F40) (W8_f (tg_493 F19) jW8))
  exact h M46 (u5) (u6) ⟨⟨⟨⟨⟨⟨⟨⟨hG41, ⟨j_75, j_76, j_77, j_78⟩, ⟨j_79, j_80, p_42, j_81, j_82⟩, by omega, by omega⟩, j_83, j_84⟩, j_85, by omega⟩, AN_a z_56⟩, by omega⟩, j_86⟩, by omega⟩, z_56⟩ (by omega) (by omega)
set_option maxRecDepth 4000 in
set_option maxHeartbeats 0 in
theorem LW_14 {X : mm_X} {d L : Nat} {M : mm_M} {Q : Option Value → mm_M → Prop} {i : Int32} {u5 u6 : Value} (hX : g_X X) (hW : g_W X) (hW2 : g_W2 X) (hL : (X 0).1 = L) (h3 : L ≤ 3072) (hd : 40 ≤ d) (hi : 0 ≤ i.toInt) (hi2 : i.toInt + 6 ≤ (L : Int)) (H : LI9 M) (h : ∀ (M1 : mm_M) (v5 v6 : Value), LI9 M1 → M1.1.2.1 ≤ M.1.2.1 + 1 → M1.1.2.2.1 ≤ M.1.2.2.1 + 6 → mm_T X d 0 1314 [.ref mm_ext, .ref 0, .ref 77, .ref 125, .int i, v5, v6] [] M1 Q) : mm_T X d 0 702 [.ref mm_ext, .ref 0, .ref 77, .ref 125, .int i, u5, u6] [] M Q := by
  obtain ⟨⟨⟨⟨⟨⟨⟨⟨hG, ⟨jPI, jNI, jQI, jPQE⟩, ⟨jFA, jWC, jNJ, jPS, jKQ⟩, jJ, jE⟩, jTP, jW9⟩, jNE, jCC⟩, -⟩, jOV⟩, jW8⟩, jNN⟩, jAN⟩ := H
  have b_1 := g_b hG (a := 77) (i := 7) (lo := 0) (hi := 500) rfl rfl
  have b_2 := g_b hG (a := 77) (i := 6) (lo := 0) (hi := 500) rfl rfl
  have b_3 := g_b hG (a := 1) (i := 1) (lo := 0) (hi := 500) rfl rfl
  have b_4 := g_b hG (a := 77) (i := 1) (lo := 0) (hi := 500) rfl rfl
  have b_5 := g_b hG (a := 0) (i := 12) (lo := 0) (hi := 30) rfl rfl
  have b_6 := g_b hG (a := 77) (i := 28) (lo := 0) (hi := 30) rfl rfl
  have b_7 := g_b hG (a := 6) (i := 0) (lo := 0) (hi := 150) rfl rfl
  have b_8 := g_b hG (a := 77) (i := 29) (lo := 0) (hi := 150) rfl rfl
  refine to_an (pc := 702) rw_0_702 rfl (to_an (pc := 703) rw_0_703 rfl (to_i (pc := 704) rw_0_704 rfl (to_c (pc := 706) rw_0_706 (x := (1 : Int32)) rfl rfl (s_add (pc := 707) rw_0_707 (A := i.toInt) (B := 1) rfl rfl (by omega) (fun v9 e10 => s_x0 (pc := 708) rw_0_708 hL (A := v9.toInt) rfl (by omega) (by omega) (fun v11 e12 => s_v (pc := 709) rw_0_709 (dp0 hd (by decide)) (ls0 := [.ref 0, .int v11]) rfl (Nat.le_of_ble_eq_true rfl) (Nat.le_of_ble_eq_true rfl) rfl (to_rc rfl rfl rfl (g_o hG rfl)) rfl ?_))))))
  obtain ⟨pz13, pzz13, qz13, qzz13, hpz13, hpzz13, hqz13, hqzz13, hpqz13⟩ := id jPQE
  obtain ⟨sg, NN, nz, ca, hs1, hs2, hn1, hn2, hn3, hn4, hn5⟩ := AN_u jAN hpqz13
  refine E_123 hX (dp1 hd (by decide)) hG hpz13 hpzz13 hqz13 hqzz13 hpqz13 jNI jPI jQI hs1.1 (n := v11) (sg := sg) (p := pz13) (pz := pzz13) (q := qz13) (qz := qzz13) (fun r14 M23 hG16 F15 p_17 p_18 p_19 p_20 p_21 p_22 => ?_)
  have n_24 : M23.1.2.1 = M.1.2.1 ∧ M23.1.2.2.1 = M.1.2.2.1 := by rw [F15.1]; exact ⟨rfl, rfl⟩
  have b_26 := g_b hG16 (a := 6) (i := 0) (lo := 0) (hi := 150) rfl rfl
  have c_27 : M23.2.1 77 29 = (M.2.1 77 29) := (F_n F15 (show ¬ (6 ≤ 77 ∧ 77 ≤ 10) by decide) rfl)
  have t_28 : (M23.2.1 77 29).toInt = (M.2.1 77 29).toInt := congrArg Int32.toInt c_27
  refine to_popi (pc := 712) rw_0_712 (to_an (pc := 713) rw_0_713 rfl (to_an (pc := 714) rw_0_714 rfl (to_i (pc := 715) rw_0_715 rfl (to_c (pc := 717) rw_0_717 (x := (1 : Int32)) rfl rfl (s_addk (pc := 718) rw_0_718 (A := i.toInt) (B := 1) rfl rfl (by omega) (v := v9) e10 (s_x0k (pc := 719) rw_0_719 hL (A := v9.toInt) rfl (by omega) (by omega) (v := v11) e12 (s_v (pc := 720) rw_0_720 (dp0 hd (by decide)) (ls0 := [.ref 77, .int v11]) rfl (Nat.le_of_ble_eq_true rfl) (Nat.le_of_ble_eq_true rfl) rfl (to_rc rfl rfl rfl (g_o hG16 rfl)) rfl ?_)))))))
  have j_31 := (NJ_f (tg_475 F15) jNJ)
  have j_32 := (PLk_f (tg_477 F15) hs2.1)
  refine E_199 hX (dp1 hd (by decide)) hG16 j_31 j_32 (n := v11) (sg := sg) (fun r33 M40 hG35 F34 p_36 p_37 p_38 p_39 => ?_)
  have n_41 : M40.1.2.1 = M23.1.2.1 ∧ M40.1.2.2.1 = M23.1.2.2.1 := by rw [F34.1]; exact ⟨rfl, rfl⟩
  have b_43 := g_b hG35 (a := 77) (i := 29) (lo := 0) (hi := 150) rfl rfl
  have k_44 : (0 : Int32).toInt = 0 := rfl
  have k_45 : (1 : Int32).toInt = 1 := rfl
  have k_46 : (2 : Int32).toInt = 2 := rfl
  have k_47 : (3 : Int32).toInt = 3 := rfl
  have k_48 : (4 : Int32).toInt = 4 := rfl
  have k_49 : (5 : Int32).toInt = 5 := rfl
  have z_50 := AN_n hpz13 hpqz13 hs1 hs2 hn1 hn2 hn3 hn4 hn5 F15 (fun a i z => show ¬ (6 ≤ a ∧ a ≤ 10) by omega) F34 (fun a i z => show ¬ (a = 77 ∧ (i = 2 ∨ i = 29) ∨ 90 ≤ a ∧ a ≤ 93) by omega) p_22 p_39 (by omega) (by omega) (by omega) (by omega) (fun z9 => ⟨fun z => by omega, fun z => by omega, fun z => by omega, fun z => by omega, fun z => by omega⟩)
  refine to_popi (pc := 723) rw_0_723 (to_go (pc := 724) rw_0_724 ?_)
  have c_51 : M40.2.1 77 7 = (M.2.1 77 7) := (F_n F34 (show ¬ (77 = 77 ∧ (7 = 2 ∨ 7 = 29) ∨ 90 ≤ 77 ∧ 77 ≤ 93) by decide) (F_n F15 (show ¬ (6 ≤ 77 ∧ 77 ≤ 10) by decide) rfl))
  have t_52 : (M40.2.1 77 7).toInt = (M.2.1 77 7).toInt := congrArg Int32.toInt c_51
  have c_53 : M40.2.1 77 6 = (M.2.1 77 6) := (F_n F34 (show ¬ (77 = 77 ∧ (6 = 2 ∨ 6 = 29) ∨ 90 ≤ 77 ∧ 77 ≤ 93) by decide) (F_n F15 (show ¬ (6 ≤ 77 ∧ 77 ≤ 10) by decide) rfl))
  have t_54 : (M40.2.1 77 6).toInt = (M.2.1 77 6).toInt := congrArg Int32.toInt c_53
  have c_55 : M40.2.1 1 1 = (M.2.1 1 1) := (F_n F34 (show ¬ (1 = 77 ∧ (1 = 2 ∨ 1 = 29) ∨ 90 ≤ 1 ∧ 1 ≤ 93) by decide) (F_n F15 (show ¬ (6 ≤ 1 ∧ 1 ≤ 10) by decide) rfl))
  have t_56 : (M40.2.1 1 1).toInt = (M.2.1 1 1).toInt := congrArg Int32.toInt c_55
  have c_57 : M40.2.1 77 1 = (M.2.1 77 1) := (F_n F34 (show ¬ (77 = 77 ∧ (1 = 2 ∨ 1 = 29) ∨ 90 ≤ 77 ∧ 77 ≤ 93) by decide) (F_n F15 (show ¬ (6 ≤ 77 ∧ 77 ≤ 10) by decide) rfl))
  have t_58 : (M40.2.1 77 1).toInt = (M.2.1 77 1).toInt := congrArg Int32.toInt c_57
  have c_59 : M40.2.1 0 12 = (M.2.1 0 12) := (F_n F34 (show ¬ (0 = 77 ∧ (12 = 2 ∨ 12 = 29) ∨ 90 ≤ 0 ∧ 0 ≤ 93) by decide) (F_n F15 (show ¬ (6 ≤ 0 ∧ 0 ≤ 10) by decide) rfl))
  have t_60 : (M40.2.1 0 12).toInt = (M.2.1 0 12).toInt := congrArg Int32.toInt c_59
  have c_61 : M40.2.1 77 28 = (M.2.1 77 28) := (F_n F34 (show ¬ (77 = 77 ∧ (28 = 2 ∨ 28 = 29) ∨ 90 ≤ 77 ∧ 77 ≤ 93) by decide) (F_n F15 (show ¬ (6 ≤ 77 ∧ 77 ≤ 10) by decide) rfl))
  have t_62 : (M40.2.1 77 28).toInt = (M.2.1 77 28).toInt := congrArg Int32.toInt c_61
  have c_63 : M40.2.1 17 4 = (M.2.1 17 4) := (F_n F34 (show ¬ (17 = 77 ∧ (4 = 2 ∨ 4 = 29) ∨ 90 ≤ 17 ∧ 17 ≤ 93) by decide) (F_n F15 (show ¬ (6 ≤ 17 ∧ 17 ≤ 10) by decide) rfl))
  have t_64 : (M40.2.1 17 4).toInt = (M.2.1 17 4).toInt := congrArg Int32.toInt c_63
  have c_65 : M40.2.1 77 41 = (M.2.1 77 41) := (F_n F34 (show ¬ (77 = 77 ∧ (41 = 2 ∨ 41 = 29) ∨ 90 ≤ 77 ∧ 77 ≤ 93) by decide) (F_n F15 (show ¬ (6 ≤ 77 ∧ 77 ≤ 10) by decide) rfl))
  have t_66 : (M40.2.1 77 41).toInt = (M.2.1 77 41).toInt := congrArg Int32.toInt c_65
  have c_67 : M40.2.1 6 0 = (M23.2.1 6 0) := (F_n F34 (show ¬ (6 = 77 ∧ (0 = 2 ∨ 0 = 29) ∨ 90 ≤ 6 ∧ 6 ≤ 93) by decide) rfl)
  have t_68 : (M40.2.1 6 0).toInt = (M23.2.1 6 0).toInt := congrArg Int32.toInt c_67
  have j_69 := (PI_f (tg_478 F34) p_18)
  have j_70 := (NI_f (tg_479 F34) p_17)
  have j_71 := (QI_f (tg_480 F34) p_19)
  have j_72 := (PQE_r F34.2.1 (PQE_r F15.2.1 jPQE))
  have j_73 := (FA_f (tg_481 F34) (FA_f (tg_476 F15) jFA))
  have j_74 := (WC_f (tg_482 F34) (WC_f (tg_483 F15) jWC))
  have j_75 := (PS_f (tg_484 F34) (PS_f (tg_485 F15) jPS))
  have j_76 := (KQ_f (tg_486 F34) (KQ_f (tg_487 F15) jKQ))
  have j_77 := (TP_f (tg_488 F34) (TP_f (tg_489 F15) jTP))
  have j_78 := (W9_f (tg_490 F34) (W9_f (tg_491 F15) jW9))
  have j_79 := (NE_r F34.2.1 (NE_r F15.2.1 jNE))
  have j_80 := (W8_f (tg_492 F34) (W8_f (tg_493 F15) jW8))
  exact h M40 (u5) (u6) ⟨⟨⟨⟨⟨⟨⟨⟨hG35, ⟨j_69, j_70, j_71, j_72⟩, ⟨j_73, j_74, p_36, j_75, j_76⟩, by omega, by omega⟩, j_77, j_78⟩, j_79, by omega⟩, AN_a z_50⟩, by omega⟩, j_80⟩, by omega⟩, z_50⟩ (by omega) (by omega)
end
section
theorem tg_504 {M M1 : mm_M} (F : FR (fun a i : Nat => a = 77 ∧ (i = 2 ∨ i = 41)) M M1) : ∀ a i : Nat, PI_r a → M1.2.1 a i = M.2.1 a i := fun a i z => F_n F (show ¬ (a = 77 ∧ (i = 2 ∨ i = 41)) by omega) rfl
theorem tg_505 {M M1 : mm_M} (F : FR (fun a i : Nat => a = 77 ∧ (i = 2 ∨ i = 41)) M M1) : ∀ a i : Nat, (7 ≤ a ∧ a ≤ 9) → M1.2.1 a i = M.2.1 a i := fun a i z => F_n F (show ¬ (a = 77 ∧ (i = 2 ∨ i = 41)) by omega) rfl
theorem tg_506 {M M1 : mm_M} (F : FR (fun a i : Nat => a = 77 ∧ (i = 2 ∨ i = 41)) M M1) : ∀ a i : Nat, (a = 68 ∨ a = 69 ∨ a = 73 ∨ a = 74) → M1.2.1 a i = M.2.1 a i := fun a i z => F_n F (show ¬ (a = 77 ∧ (i = 2 ∨ i = 41)) by omega) rfl
theorem tg_507 {M M1 : mm_M} (F : FR (fun a i : Nat => a = 77 ∧ (i = 2 ∨ i = 41)) M M1) : ∀ a i : Nat, (81 ≤ a ∧ a ≤ 84) → M1.2.1 a i = M.2.1 a i := fun a i z => F_n F (show ¬ (a = 77 ∧ (i = 2 ∨ i = 41)) by omega) rfl
theorem tg_508 {M M1 : mm_M} (F : FR (fun a i : Nat => a = 17) M M1) : ∀ a i : Nat, (81 ≤ a ∧ a ≤ 84) → M1.2.1 a i = M.2.1 a i := fun a i z => F_n F (show ¬ (a = 17) by omega) rfl
theorem tg_509 {M M1 : mm_M} (F : FR (fun a i : Nat => a = 77 ∧ (i = 2 ∨ i = 41)) M M1) : ∀ a i : Nat, WC_r a i → M1.2.1 a i = M.2.1 a i := fun a i z => F_n F (show ¬ (a = 77 ∧ (i = 2 ∨ i = 41)) by omega) rfl
theorem tg_510 {M M1 : mm_M} (F : FR (fun a i : Nat => a = 17) M M1) : ∀ a i : Nat, WC_r a i → M1.2.1 a i = M.2.1 a i := fun a i z => F_n F (show ¬ (a = 17) by omega) rfl
theorem tg_511 {M M1 : mm_M} (F : FR (fun a i : Nat => a = 77 ∧ (i = 2 ∨ i = 41)) M M1) : ∀ a i : Nat, NJ_r a i → M1.2.1 a i = M.2.1 a i := fun a i z => F_n F (show ¬ (a = 77 ∧ (i = 2 ∨ i = 41)) by omega) rfl
theorem tg_512 {M M1 : mm_M} (F : FR (fun a i : Nat => a = 17) M M1) : ∀ a i : Nat, NJ_r a i → M1.2.1 a i = M.2.1 a i := fun a i z => F_n F (show ¬ (a = 17) by omega) rfl
theorem tg_513 {M M1 : mm_M} (F : FR (fun a i : Nat => a = 77 ∧ (i = 2 ∨ i = 41)) M M1) : ∀ a i : Nat, (a = 100 ∨ a = 77 ∧ i = 28) → M1.2.1 a i = M.2.1 a i := fun a i z => F_n F (show ¬ (a = 77 ∧ (i = 2 ∨ i = 41)) by omega) rfl
theorem tg_514 {M M1 : mm_M} (F : FR (fun a i : Nat => a = 17) M M1) : ∀ a i : Nat, (a = 100 ∨ a = 77 ∧ i = 28) → M1.2.1 a i = M.2.1 a i := fun a i z => F_n F (show ¬ (a = 17) by omega) rfl
theorem tg_515 {M M1 : mm_M} (F : FR (fun a i : Nat => a = 77 ∧ (i = 2 ∨ i = 41)) M M1) : ∀ a i : Nat, KQ_r a i → M1.2.1 a i = M.2.1 a i := fun a i z => F_n F (show ¬ (a = 77 ∧ (i = 2 ∨ i = 41)) by omega) rfl
theorem tg_516 {M M1 : mm_M} (F : FR (fun a i : Nat => a = 17) M M1) : ∀ a i : Nat, KQ_r a i → M1.2.1 a i = M.2.1 a i := fun a i z => F_n F (show ¬ (a = 17) by omega) rfl
theorem tg_517 {M M1 : mm_M} (F : FR (fun a i : Nat => a = 77 ∧ (i = 2 ∨ i = 41)) M M1) : ∀ a i : Nat, (a = 1 ∧ i = 1 ∨ a = 2 ∨ a = 78) → M1.2.1 a i = M.2.1 a i := fun a i z => F_n F (show ¬ (a = 77 ∧ (i = 2 ∨ i = 41)) by omega) rfl
theorem tg_518 {M M1 : mm_M} (F : FR (fun a i : Nat => a = 17) M M1) : ∀ a i : Nat, (a = 1 ∧ i = 1 ∨ a = 2 ∨ a = 78) → M1.2.1 a i = M.2.1 a i := fun a i z => F_n F (show ¬ (a = 17) by omega) rfl
theorem tg_519 {M M1 : mm_M} (F : FR (fun a i : Nat => a = 77 ∧ (i = 2 ∨ i = 41)) M M1) : ∀ a i : Nat, a = 79 → M1.2.1 a i = M.2.1 a i := fun a i z => F_n F (show ¬ (a = 77 ∧ (i = 2 ∨ i = 41)) by omega) rfl
theorem tg_520 {M M1 : mm_M} (F : FR (fun a i : Nat => a = 17) M M1) : ∀ a i : Nat, a = 79 → M1.2.1 a i = M.2.1 a i := fun a i z => F_n F (show ¬ (a = 17) by omega) rfl
theorem tg_521 {M M1 : mm_M} (F : FR (fun a i : Nat => a = 77 ∧ (i = 2 ∨ i = 41)) M M1) : ∀ a i : Nat, 88 ≤ a ∧ a ≤ 89 → M1.2.1 a i = M.2.1 a i := fun a i z => F_n F (show ¬ (a = 77 ∧ (i = 2 ∨ i = 41)) by omega) rfl
theorem tg_522 {M M1 : mm_M} (F : FR (fun a i : Nat => a = 17) M M1) : ∀ a i : Nat, 88 ≤ a ∧ a ≤ 89 → M1.2.1 a i = M.2.1 a i := fun a i z => F_n F (show ¬ (a = 17) by omega) rfl
theorem tg_523 {M M1 : mm_M} (F : FR (fun a i : Nat => a = 77 ∧ (i = 2 ∨ i = 41) ∨ a = 99 ∨ a = 100) M M1) : ∀ a i : Nat, PI_r a → M1.2.1 a i = M.2.1 a i := fun a i z => F_n F (show ¬ (a = 77 ∧ (i = 2 ∨ i = 41) ∨ a = 99 ∨ a = 100) by omega) rfl
theorem tg_524 {M M1 : mm_M} (F : FR (fun a i : Nat => a = 77 ∧ (i = 2 ∨ i = 41) ∨ a = 99 ∨ a = 100) M M1) : ∀ a i : Nat, (7 ≤ a ∧ a ≤ 9) → M1.2.1 a i = M.2.1 a i := fun a i z => F_n F (show ¬ (a = 77 ∧ (i = 2 ∨ i = 41) ∨ a = 99 ∨ a = 100) by omega) rfl
theorem tg_525 {M M1 : mm_M} (F : FR (fun a i : Nat => a = 77 ∧ (i = 2 ∨ i = 41) ∨ a = 99 ∨ a = 100) M M1) : ∀ a i : Nat, (a = 68 ∨ a = 69 ∨ a = 73 ∨ a = 74) → M1.2.1 a i = M.2.1 a i := fun a i z => F_n F (show ¬ (a = 77 ∧ (i = 2 ∨ i = 41) ∨ a = 99 ∨ a = 100) by omega) rfl
theorem tg_526 {M M1 : mm_M} (F : FR (fun a i : Nat => a = 77 ∧ (i = 2 ∨ i = 41) ∨ a = 99 ∨ a = 100) M M1) : ∀ a i : Nat, (81 ≤ a ∧ a ≤ 84) → M1.2.1 a i = M.2.1 a i := fun a i z => F_n F (show ¬ (a = 77 ∧ (i = 2 ∨ i = 41) ∨ a = 99 ∨ a = 100) by omega) rfl
theorem tg_527 {M M1 : mm_M} (F : FR (fun a i : Nat => 17 ≤ a ∧ a ≤ 27) M M1) : ∀ a i : Nat, (81 ≤ a ∧ a ≤ 84) → M1.2.1 a i = M.2.1 a i := fun a i z => F_n F (show ¬ (17 ≤ a ∧ a ≤ 27) by omega) rfl
theorem tg_528 {M M1 : mm_M} (F : FR (fun a i : Nat => a = 77 ∧ (i = 2 ∨ i = 41) ∨ a = 99 ∨ a = 100) M M1) : ∀ a i : Nat, WC_r a i → M1.2.1 a i = M.2.1 a i := fun a i z => F_n F (show ¬ (a = 77 ∧ (i = 2 ∨ i = 41) ∨ a = 99 ∨ a = 100) by omega) rfl
theorem tg_529 {M M1 : mm_M} (F : FR (fun a i : Nat => 17 ≤ a ∧ a ≤ 27) M M1) : ∀ a i : Nat, WC_r a i → M1.2.1 a i = M.2.1 a i := fun a i z => F_n F (show ¬ (17 ≤ a ∧ a ≤ 27) by omega) rfl
theorem tg_530 {M M1 : mm_M} (F : FR (fun a i : Nat => a = 77 ∧ (i = 2 ∨ i = 41) ∨ a = 99 ∨ a = 100) M M1) : ∀ a i : Nat, NJ_r a i → M1.2.1 a i = M.2.1 a i := fun a i z => F_n F (show ¬ (a = 77 ∧ (i = 2 ∨ i = 41) ∨ a = 99 ∨ a = 100) by omega) rfl
theorem tg_531 {M M1 : mm_M} (F : FR (fun a i : Nat => 17 ≤ a ∧ a ≤ 27) M M1) : ∀ a i : Nat, NJ_r a i → M1.2.1 a i = M.2.1 a i := fun a i z => F_n F (show ¬ (17 ≤ a ∧ a ≤ 27) by omega) rfl
theorem tg_532 {M M1 : mm_M} (F : FR (fun a i : Nat => a = 77 ∧ (i = 2 ∨ i = 41) ∨ a = 99 ∨ a = 100) M M1) : ∀ a i : Nat, KQ_r a i → M1.2.1 a i = M.2.1 a i := fun a i z => F_n F (show ¬ (a = 77 ∧ (i = 2 ∨ i = 41) ∨ a = 99 ∨ a = 100) by omega) rfl
theorem tg_533 {M M1 : mm_M} (F : FR (fun a i : Nat => 17 ≤ a ∧ a ≤ 27) M M1) : ∀ a i : Nat, KQ_r a i → M1.2.1 a i = M.2.1 a i := fun a i z => F_n F (show ¬ (17 ≤ a ∧ a ≤ 27) by omega) rfl
theorem tg_534 {M M1 : mm_M} (F : FR (fun a i : Nat => a = 77 ∧ (i = 2 ∨ i = 41) ∨ a = 99 ∨ a = 100) M M1) : ∀ a i : Nat, (a = 1 ∧ i = 1 ∨ a = 2 ∨ a = 78) → M1.2.1 a i = M.2.1 a i := fun a i z => F_n F (show ¬ (a = 77 ∧ (i = 2 ∨ i = 41) ∨ a = 99 ∨ a = 100) by omega) rfl
theorem tg_535 {M M1 : mm_M} (F : FR (fun a i : Nat => 17 ≤ a ∧ a ≤ 27) M M1) : ∀ a i : Nat, (a = 1 ∧ i = 1 ∨ a = 2 ∨ a = 78) → M1.2.1 a i = M.2.1 a i := fun a i z => F_n F (show ¬ (17 ≤ a ∧ a ≤ 27) by omega) rfl
theorem tg_536 {M M1 : mm_M} (F : FR (fun a i : Nat => a = 77 ∧ (i = 2 ∨ i = 41) ∨ a = 99 ∨ a = 100) M M1) : ∀ a i : Nat, a = 79 → M1.2.1 a i = M.2.1 a i := fun a i z => F_n F (show ¬ (a = 77 ∧ (i = 2 ∨ i = 41) ∨ a = 99 ∨ a = 100) by omega) rfl
theorem tg_537 {M M1 : mm_M} (F : FR (fun a i : Nat => 17 ≤ a ∧ a ≤ 27) M M1) : ∀ a i : Nat, a = 79 → M1.2.1 a i = M.2.1 a i := fun a i z => F_n F (show ¬ (17 ≤ a ∧ a ≤ 27) by omega) rfl
theorem tg_538 {M M1 : mm_M} (F : FR (fun a i : Nat => a = 77 ∧ (i = 2 ∨ i = 41) ∨ a = 99 ∨ a = 100) M M1) : ∀ a i : Nat, 88 ≤ a ∧ a ≤ 89 → M1.2.1 a i = M.2.1 a i := fun a i z => F_n F (show ¬ (a = 77 ∧ (i = 2 ∨ i = 41) ∨ a = 99 ∨ a = 100) by omega) rfl
theorem tg_539 {M M1 : mm_M} (F : FR (fun a i : Nat => 17 ≤ a ∧ a ≤ 27) M M1) : ∀ a i : Nat, 88 ≤ a ∧ a ≤ 89 → M1.2.1 a i = M.2.1 a i := fun a i z => F_n F (show ¬ (17 ≤ a ∧ a ≤ 27) by omega) rfl
theorem tg_540 {M M1 : mm_M} (F : FR (fun a i : Nat => 11 ≤ a ∧ a ≤ 16 ∨ a = 71 ∨ a = 76) M M1) : ∀ a i : Nat, NJ_r a i → M1.2.1 a i = M.2.1 a i := fun a i z => F_n F (show ¬ (11 ≤ a ∧ a ≤ 16 ∨ a = 71 ∨ a = 76) by omega) rfl
theorem tg_541 {M M1 : mm_M} (F : FR (fun a i : Nat => 11 ≤ a ∧ a ≤ 16 ∨ a = 71 ∨ a = 76) M M1) : ∀ a i : Nat, KQ_r a i → M1.2.1 a i = M.2.1 a i := fun a i z => F_n F (show ¬ (11 ≤ a ∧ a ≤ 16 ∨ a = 71 ∨ a = 76) by omega) rfl
theorem tg_542 {M M1 : mm_M} (F : FR (fun a i : Nat => a = 77 ∧ i = 2 ∨ 94 ≤ a ∧ a ≤ 98 ∨ a = 117) M M1) : ∀ a i : Nat, PI_r a → M1.2.1 a i = M.2.1 a i := fun a i z => F_n F (show ¬ (a = 77 ∧ i = 2 ∨ 94 ≤ a ∧ a ≤ 98 ∨ a = 117) by omega) rfl
theorem tg_543 {M M1 : mm_M} (F : FR (fun a i : Nat => 11 ≤ a ∧ a ≤ 16 ∨ a = 71 ∨ a = 76) M M1) : ∀ a i : Nat, PI_r a → M1.2.1 a i = M.2.1 a i := fun a i z => F_n F (show ¬ (11 ≤ a ∧ a ≤ 16 ∨ a = 71 ∨ a = 76) by omega) rfl
theorem tg_544 {M M1 : mm_M} (F : FR (fun a i : Nat => a = 77 ∧ i = 2 ∨ 94 ≤ a ∧ a ≤ 98 ∨ a = 117) M M1) : ∀ a i : Nat, (7 ≤ a ∧ a ≤ 9) → M1.2.1 a i = M.2.1 a i := fun a i z => F_n F (show ¬ (a = 77 ∧ i = 2 ∨ 94 ≤ a ∧ a ≤ 98 ∨ a = 117) by omega) rfl
theorem tg_545 {M M1 : mm_M} (F : FR (fun a i : Nat => 11 ≤ a ∧ a ≤ 16 ∨ a = 71 ∨ a = 76) M M1) : ∀ a i : Nat, (7 ≤ a ∧ a ≤ 9) → M1.2.1 a i = M.2.1 a i := fun a i z => F_n F (show ¬ (11 ≤ a ∧ a ≤ 16 ∨ a = 71 ∨ a = 76) by omega) rfl
theorem tg_546 {M M1 : mm_M} (F : FR (fun a i : Nat => a = 77 ∧ i = 2 ∨ 94 ≤ a ∧ a ≤ 98 ∨ a = 117) M M1) : ∀ a i : Nat, (a = 68 ∨ a = 69 ∨ a = 73 ∨ a = 74) → M1.2.1 a i = M.2.1 a i := fun a i z => F_n F (show ¬ (a = 77 ∧ i = 2 ∨ 94 ≤ a ∧ a ≤ 98 ∨ a = 117) by omega) rfl
theorem tg_547 {M M1 : mm_M} (F : FR (fun a i : Nat => 11 ≤ a ∧ a ≤ 16 ∨ a = 71 ∨ a = 76) M M1) : ∀ a i : Nat, (a = 68 ∨ a = 69 ∨ a = 73 ∨ a = 74) → M1.2.1 a i = M.2.1 a i := fun a i z => F_n F (show ¬ (11 ≤ a ∧ a ≤ 16 ∨ a = 71 ∨ a = 76) by omega) rfl
theorem tg_548 {M M1 : mm_M} (F : FR (fun a i : Nat => a = 77 ∧ i = 2 ∨ 94 ≤ a ∧ a ≤ 98 ∨ a = 117) M M1) : ∀ a i : Nat, (81 ≤ a ∧ a ≤ 84) → M1.2.1 a i = M.2.1 a i := fun a i z => F_n F (show ¬ (a = 77 ∧ i = 2 ∨ 94 ≤ a ∧ a ≤ 98 ∨ a = 117) by omega) rfl
theorem tg_549 {M M1 : mm_M} (F : FR (fun a i : Nat => 11 ≤ a ∧ a ≤ 16 ∨ a = 71 ∨ a = 76) M M1) : ∀ a i : Nat, (81 ≤ a ∧ a ≤ 84) → M1.2.1 a i = M.2.1 a i := fun a i z => F_n F (show ¬ (11 ≤ a ∧ a ≤ 16 ∨ a = 71 ∨ a = 76) by omega) rfl
theorem tg_550 {M M1 : mm_M} (F : FR (fun a i : Nat => a = 77 ∧ i = 2 ∨ 94 ≤ a ∧ a ≤ 98 ∨ a = 117) M M1) : ∀ a i : Nat, WC_r a i → M1.2.1 a i = M.2.1 a i := fun a i z => F_n F (show ¬ (a = 77 ∧ i = 2 ∨ 94 ≤ a ∧ a ≤ 98 ∨ a = 117) by omega) rfl
theorem tg_551 {M M1 : mm_M} (F : FR (fun a i : Nat => 11 ≤ a ∧ a ≤ 16 ∨ a = 71 ∨ a = 76) M M1) : ∀ a i : Nat, WC_r a i → M1.2.1 a i = M.2.1 a i := fun a i z => F_n F (show ¬ (11 ≤ a ∧ a ≤ 16 ∨ a = 71 ∨ a = 76) by omega) rfl
theorem tg_552 {M M1 : mm_M} (F : FR (fun a i : Nat => a = 77 ∧ i = 2 ∨ 94 ≤ a ∧ a ≤ 98 ∨ a = 117) M M1) : ∀ a i : Nat, NJ_r a i → M1.2.1 a i = M.2.1 a i := fun a i z => F_n F (show ¬ (a = 77 ∧ i = 2 ∨ 94 ≤ a ∧ a ≤ 98 ∨ a = 117) by omega) rfl
theorem tg_553 {M M1 : mm_M} (F : FR (fun a i : Nat => a = 77 ∧ i = 2 ∨ 94 ≤ a ∧ a ≤ 98 ∨ a = 117) M M1) : ∀ a i : Nat, (a = 100 ∨ a = 77 ∧ i = 28) → M1.2.1 a i = M.2.1 a i := fun a i z => F_n F (show ¬ (a = 77 ∧ i = 2 ∨ 94 ≤ a ∧ a ≤ 98 ∨ a = 117) by omega) rfl
theorem tg_554 {M M1 : mm_M} (F : FR (fun a i : Nat => 11 ≤ a ∧ a ≤ 16 ∨ a = 71 ∨ a = 76) M M1) : ∀ a i : Nat, (a = 100 ∨ a = 77 ∧ i = 28) → M1.2.1 a i = M.2.1 a i := fun a i z => F_n F (show ¬ (11 ≤ a ∧ a ≤ 16 ∨ a = 71 ∨ a = 76) by omega) rfl
theorem tg_555 {M M1 : mm_M} (F : FR (fun a i : Nat => a = 77 ∧ i = 2 ∨ 94 ≤ a ∧ a ≤ 98 ∨ a = 117) M M1) : ∀ a i : Nat, KQ_r a i → M1.2.1 a i = M.2.1 a i := fun a i z => F_n F (show ¬ (a = 77 ∧ i = 2 ∨ 94 ≤ a ∧ a ≤ 98 ∨ a = 117) by omega) rfl
theorem tg_556 {M M1 : mm_M} (F : FR (fun a i : Nat => a = 77 ∧ i = 2 ∨ 94 ≤ a ∧ a ≤ 98 ∨ a = 117) M M1) : ∀ a i : Nat, (a = 1 ∧ i = 1 ∨ a = 2 ∨ a = 78) → M1.2.1 a i = M.2.1 a i := fun a i z => F_n F (show ¬ (a = 77 ∧ i = 2 ∨ 94 ≤ a ∧ a ≤ 98 ∨ a = 117) by omega) rfl
theorem tg_557 {M M1 : mm_M} (F : FR (fun a i : Nat => 11 ≤ a ∧ a ≤ 16 ∨ a = 71 ∨ a = 76) M M1) : ∀ a i : Nat, (a = 1 ∧ i = 1 ∨ a = 2 ∨ a = 78) → M1.2.1 a i = M.2.1 a i := fun a i z => F_n F (show ¬ (11 ≤ a ∧ a ≤ 16 ∨ a = 71 ∨ a = 76) by omega) rfl
theorem tg_558 {M M1 : mm_M} (F : FR (fun a i : Nat => a = 77 ∧ i = 2 ∨ 94 ≤ a ∧ a ≤ 98 ∨ a = 117) M M1) : ∀ a i : Nat, a = 79 → M1.2.1 a i = M.2.1 a i := fun a i z => F_n F (show ¬ (a = 77 ∧ i = 2 ∨ 94 ≤ a ∧ a ≤ 98 ∨ a = 117) by omega) rfl
theorem tg_559 {M M1 : mm_M} (F : FR (fun a i : Nat => 11 ≤ a ∧ a ≤ 16 ∨ a = 71 ∨ a = 76) M M1) : ∀ a i : Nat, a = 79 → M1.2.1 a i = M.2.1 a i := fun a i z => F_n F (show ¬ (11 ≤ a ∧ a ≤ 16 ∨ a = 71 ∨ a = 76) by omega) rfl
theorem tg_560 {M M1 : mm_M} (F : FR (fun a i : Nat => a = 77 ∧ i = 2 ∨ 94 ≤ a ∧ a ≤ 98 ∨ a = 117) M M1) : ∀ a i : Nat, 88 ≤ a ∧ a ≤ 89 → M1.2.1 a i = M.2.1 a i := fun a i z => F_n F (show ¬ (a = 77 ∧ i = 2 ∨ 94 ≤ a ∧ a ≤ 98 ∨ a = 117) by omega) rfl
theorem tg_561 {M M1 : mm_M} (F : FR (fun a i : Nat => 11 ≤ a ∧ a ≤ 16 ∨ a = 71 ∨ a = 76) M M1) : ∀ a i : Nat, 88 ≤ a ∧ a ≤ 89 → M1.2.1 a i = M.2.1 a i := fun a i z => F_n F (show ¬ (11 ≤ a ∧ a ≤ 16 ∨ a = 71 ∨ a = 76) by omega) rfl
theorem tg_562 {M M1 : mm_M} (F : FR (fun a i : Nat => a = 77 ∧ i = 2 ∨ 94 ≤ a ∧ a ≤ 98 ∨ a = 118) M M1) : ∀ a i : Nat, PI_r a → M1.2.1 a i = M.2.1 a i := fun a i z => F_n F (show ¬ (a = 77 ∧ i = 2 ∨ 94 ≤ a ∧ a ≤ 98 ∨ a = 118) by omega) rfl
theorem tg_563 {M M1 : mm_M} (F : FR (fun a i : Nat => a = 77 ∧ i = 2 ∨ 94 ≤ a ∧ a ≤ 98 ∨ a = 118) M M1) : ∀ a i : Nat, (7 ≤ a ∧ a ≤ 9) → M1.2.1 a i = M.2.1 a i := fun a i z => F_n F (show ¬ (a = 77 ∧ i = 2 ∨ 94 ≤ a ∧ a ≤ 98 ∨ a = 118) by omega) rfl
theorem tg_564 {M M1 : mm_M} (F : FR (fun a i : Nat => a = 77 ∧ i = 2 ∨ 94 ≤ a ∧ a ≤ 98 ∨ a = 118) M M1) : ∀ a i : Nat, (a = 68 ∨ a = 69 ∨ a = 73 ∨ a = 74) → M1.2.1 a i = M.2.1 a i := fun a i z => F_n F (show ¬ (a = 77 ∧ i = 2 ∨ 94 ≤ a ∧ a ≤ 98 ∨ a = 118) by omega) rfl
theorem tg_565 {M M1 : mm_M} (F : FR (fun a i : Nat => a = 77 ∧ i = 2 ∨ 94 ≤ a ∧ a ≤ 98 ∨ a = 118) M M1) : ∀ a i : Nat, (81 ≤ a ∧ a ≤ 84) → M1.2.1 a i = M.2.1 a i := fun a i z => F_n F (show ¬ (a = 77 ∧ i = 2 ∨ 94 ≤ a ∧ a ≤ 98 ∨ a = 118) by omega) rfl
theorem tg_566 {M M1 : mm_M} (F : FR (fun a i : Nat => a = 77 ∧ i = 2 ∨ 94 ≤ a ∧ a ≤ 98 ∨ a = 118) M M1) : ∀ a i : Nat, WC_r a i → M1.2.1 a i = M.2.1 a i := fun a i z => F_n F (show ¬ (a = 77 ∧ i = 2 ∨ 94 ≤ a ∧ a ≤ 98 ∨ a = 118) by omega) rfl
theorem tg_567 {M M1 : mm_M} (F : FR (fun a i : Nat => a = 77 ∧ i = 2 ∨ 94 ≤ a ∧ a ≤ 98 ∨ a = 118) M M1) : ∀ a i : Nat, NJ_r a i → M1.2.1 a i = M.2.1 a i := fun a i z => F_n F (show ¬ (a = 77 ∧ i = 2 ∨ 94 ≤ a ∧ a ≤ 98 ∨ a = 118) by omega) rfl
theorem tg_568 {M M1 : mm_M} (F : FR (fun a i : Nat => a = 77 ∧ i = 2 ∨ 94 ≤ a ∧ a ≤ 98 ∨ a = 118) M M1) : ∀ a i : Nat, (a = 100 ∨ a = 77 ∧ i = 28) → M1.2.1 a i = M.2.1 a i := fun a i z => F_n F (show ¬ (a = 77 ∧ i = 2 ∨ 94 ≤ a ∧ a ≤ 98 ∨ a = 118) by omega) rfl
theorem tg_569 {M M1 : mm_M} (F : FR (fun a i : Nat => a = 77 ∧ i = 2 ∨ 94 ≤ a ∧ a ≤ 98 ∨ a = 118) M M1) : ∀ a i : Nat, KQ_r a i → M1.2.1 a i = M.2.1 a i := fun a i z => F_n F (show ¬ (a = 77 ∧ i = 2 ∨ 94 ≤ a ∧ a ≤ 98 ∨ a = 118) by omega) rfl
theorem tg_570 {M M1 : mm_M} (F : FR (fun a i : Nat => a = 77 ∧ i = 2 ∨ 94 ≤ a ∧ a ≤ 98 ∨ a = 118) M M1) : ∀ a i : Nat, (a = 1 ∧ i = 1 ∨ a = 2 ∨ a = 78) → M1.2.1 a i = M.2.1 a i := fun a i z => F_n F (show ¬ (a = 77 ∧ i = 2 ∨ 94 ≤ a ∧ a ≤ 98 ∨ a = 118) by omega) rfl
theorem tg_571 {M M1 : mm_M} (F : FR (fun a i : Nat => a = 77 ∧ i = 2 ∨ 94 ≤ a ∧ a ≤ 98 ∨ a = 118) M M1) : ∀ a i : Nat, a = 79 → M1.2.1 a i = M.2.1 a i := fun a i z => F_n F (show ¬ (a = 77 ∧ i = 2 ∨ 94 ≤ a ∧ a ≤ 98 ∨ a = 118) by omega) rfl
theorem tg_572 {M M1 : mm_M} (F : FR (fun a i : Nat => a = 77 ∧ i = 2 ∨ 94 ≤ a ∧ a ≤ 98 ∨ a = 118) M M1) : ∀ a i : Nat, 88 ≤ a ∧ a ≤ 89 → M1.2.1 a i = M.2.1 a i := fun a i z => F_n F (show ¬ (a = 77 ∧ i = 2 ∨ 94 ≤ a ∧ a ≤ 98 ∨ a = 118) by omega) rfl
theorem tg_573 {M M1 : mm_M} (F : FR (fun a i : Nat => a = 77 ∧ i = 2 ∨ 94 ≤ a ∧ a ≤ 98 ∨ a = 119) M M1) : ∀ a i : Nat, PI_r a → M1.2.1 a i = M.2.1 a i := fun a i z => F_n F (show ¬ (a = 77 ∧ i = 2 ∨ 94 ≤ a ∧ a ≤ 98 ∨ a = 119) by omega) rfl
theorem tg_574 {M M1 : mm_M} (F : FR (fun a i : Nat => a = 77 ∧ i = 2 ∨ 94 ≤ a ∧ a ≤ 98 ∨ a = 119) M M1) : ∀ a i : Nat, (7 ≤ a ∧ a ≤ 9) → M1.2.1 a i = M.2.1 a i := fun a i z => F_n F (show ¬ (a = 77 ∧ i = 2 ∨ 94 ≤ a ∧ a ≤ 98 ∨ a = 119) by omega) rfl
theorem tg_575 {M M1 : mm_M} (F : FR (fun a i : Nat => a = 77 ∧ i = 2 ∨ 94 ≤ a ∧ a ≤ 98 ∨ a = 119) M M1) : ∀ a i : Nat, (a = 68 ∨ a = 69 ∨ a = 73 ∨ a = 74) → M1.2.1 a i = M.2.1 a i := fun a i z => F_n F (show ¬ (a = 77 ∧ i = 2 ∨ 94 ≤ a ∧ a ≤ 98 ∨ a = 119) by omega) rfl
theorem tg_576 {M M1 : mm_M} (F : FR (fun a i : Nat => a = 77 ∧ i = 2 ∨ 94 ≤ a ∧ a ≤ 98 ∨ a = 119) M M1) : ∀ a i : Nat, (81 ≤ a ∧ a ≤ 84) → M1.2.1 a i = M.2.1 a i := fun a i z => F_n F (show ¬ (a = 77 ∧ i = 2 ∨ 94 ≤ a ∧ a ≤ 98 ∨ a = 119) by omega) rfl
theorem tg_577 {M M1 : mm_M} (F : FR (fun a i : Nat => a = 77 ∧ i = 2 ∨ 94 ≤ a ∧ a ≤ 98 ∨ a = 119) M M1) : ∀ a i : Nat, WC_r a i → M1.2.1 a i = M.2.1 a i := fun a i z => F_n F (show ¬ (a = 77 ∧ i = 2 ∨ 94 ≤ a ∧ a ≤ 98 ∨ a = 119) by omega) rfl
theorem tg_578 {M M1 : mm_M} (F : FR (fun a i : Nat => a = 77 ∧ i = 2 ∨ 94 ≤ a ∧ a ≤ 98 ∨ a = 119) M M1) : ∀ a i : Nat, NJ_r a i → M1.2.1 a i = M.2.1 a i := fun a i z => F_n F (show ¬ (a = 77 ∧ i = 2 ∨ 94 ≤ a ∧ a ≤ 98 ∨ a = 119) by omega) rfl
theorem tg_579 {M M1 : mm_M} (F : FR (fun a i : Nat => a = 77 ∧ i = 2 ∨ 94 ≤ a ∧ a ≤ 98 ∨ a = 119) M M1) : ∀ a i : Nat, (a = 100 ∨ a = 77 ∧ i = 28) → M1.2.1 a i = M.2.1 a i := fun a i z => F_n F (show ¬ (a = 77 ∧ i = 2 ∨ 94 ≤ a ∧ a ≤ 98 ∨ a = 119) by omega) rfl
theorem tg_580 {M M1 : mm_M} (F : FR (fun a i : Nat => a = 77 ∧ i = 2 ∨ 94 ≤ a ∧ a ≤ 98 ∨ a = 119) M M1) : ∀ a i : Nat, KQ_r a i → M1.2.1 a i = M.2.1 a i := fun a i z => F_n F (show ¬ (a = 77 ∧ i = 2 ∨ 94 ≤ a ∧ a ≤ 98 ∨ a = 119) by omega) rfl
theorem tg_581 {M M1 : mm_M} (F : FR (fun a i : Nat => a = 77 ∧ i = 2 ∨ 94 ≤ a ∧ a ≤ 98 ∨ a = 119) M M1) : ∀ a i : Nat, (a = 1 ∧ i = 1 ∨ a = 2 ∨ a = 78) → M1.2.1 a i = M.2.1 a i := fun a i z => F_n F (show ¬ (a = 77 ∧ i = 2 ∨ 94 ≤ a ∧ a ≤ 98 ∨ a = 119) by omega) rfl
theorem tg_582 {M M1 : mm_M} (F : FR (fun a i : Nat => a = 77 ∧ i = 2 ∨ 94 ≤ a ∧ a ≤ 98 ∨ a = 119) M M1) : ∀ a i : Nat, a = 79 → M1.2.1 a i = M.2.1 a i := fun a i z => F_n F (show ¬ (a = 77 ∧ i = 2 ∨ 94 ≤ a ∧ a ≤ 98 ∨ a = 119) by omega) rfl
theorem tg_583 {M M1 : mm_M} (F : FR (fun a i : Nat => a = 77 ∧ i = 2 ∨ 94 ≤ a ∧ a ≤ 98 ∨ a = 119) M M1) : ∀ a i : Nat, 88 ≤ a ∧ a ≤ 89 → M1.2.1 a i = M.2.1 a i := fun a i z => F_n F (show ¬ (a = 77 ∧ i = 2 ∨ 94 ≤ a ∧ a ≤ 98 ∨ a = 119) by omega) rfl
theorem tg_584 {M M1 : mm_M} (F : FR (fun a i : Nat => a = 77 ∧ i = 2 ∨ 94 ≤ a ∧ a ≤ 98 ∨ a = 120) M M1) : ∀ a i : Nat, PI_r a → M1.2.1 a i = M.2.1 a i := fun a i z => F_n F (show ¬ (a = 77 ∧ i = 2 ∨ 94 ≤ a ∧ a ≤ 98 ∨ a = 120) by omega) rfl
theorem tg_585 {M M1 : mm_M} (F : FR (fun a i : Nat => a = 77 ∧ i = 2 ∨ 94 ≤ a ∧ a ≤ 98 ∨ a = 120) M M1) : ∀ a i : Nat, (7 ≤ a ∧ a ≤ 9) → M1.2.1 a i = M.2.1 a i := fun a i z => F_n F (show ¬ (a = 77 ∧ i = 2 ∨ 94 ≤ a ∧ a ≤ 98 ∨ a = 120) by omega) rfl
theorem tg_586 {M M1 : mm_M} (F : FR (fun a i : Nat => a = 77 ∧ i = 2 ∨ 94 ≤ a ∧ a ≤ 98 ∨ a = 120) M M1) : ∀ a i : Nat, (a = 68 ∨ a = 69 ∨ a = 73 ∨ a = 74) → M1.2.1 a i = M.2.1 a i := fun a i z => F_n F (show ¬ (a = 77 ∧ i = 2 ∨ 94 ≤ a ∧ a ≤ 98 ∨ a = 120) by omega) rfl
theorem tg_587 {M M1 : mm_M} (F : FR (fun a i : Nat => a = 77 ∧ i = 2 ∨ 94 ≤ a ∧ a ≤ 98 ∨ a = 120) M M1) : ∀ a i : Nat, (81 ≤ a ∧ a ≤ 84) → M1.2.1 a i = M.2.1 a i := fun a i z => F_n F (show ¬ (a = 77 ∧ i = 2 ∨ 94 ≤ a ∧ a ≤ 98 ∨ a = 120) by omega) rfl
theorem tg_588 {M M1 : mm_M} (F : FR (fun a i : Nat => a = 77 ∧ i = 2 ∨ 94 ≤ a ∧ a ≤ 98 ∨ a = 120) M M1) : ∀ a i : Nat, WC_r a i → M1.2.1 a i = M.2.1 a i := fun a i z => F_n F (show ¬ (a = 77 ∧ i = 2 ∨ 94 ≤ a ∧ a ≤ 98 ∨ a = 120) by omega) rfl
theorem tg_589 {M M1 : mm_M} (F : FR (fun a i : Nat => a = 77 ∧ i = 2 ∨ 94 ≤ a ∧ a ≤ 98 ∨ a = 120) M M1) : ∀ a i : Nat, NJ_r a i → M1.2.1 a i = M.2.1 a i := fun a i z => F_n F (show ¬ (a = 77 ∧ i = 2 ∨ 94 ≤ a ∧ a ≤ 98 ∨ a = 120) by omega) rfl
theorem tg_590 {M M1 : mm_M} (F : FR (fun a i : Nat => a = 77 ∧ i = 2 ∨ 94 ≤ a ∧ a ≤ 98 ∨ a = 120) M M1) : ∀ a i : Nat, (a = 100 ∨ a = 77 ∧ i = 28) → M1.2.1 a i = M.2.1 a i := fun a i z => F_n F (show ¬ (a = 77 ∧ i = 2 ∨ 94 ≤ a ∧ a ≤ 98 ∨ a = 120) by omega) rfl
theorem tg_591 {M M1 : mm_M} (F : FR (fun a i : Nat => a = 77 ∧ i = 2 ∨ 94 ≤ a ∧ a ≤ 98 ∨ a = 120) M M1) : ∀ a i : Nat, KQ_r a i → M1.2.1 a i = M.2.1 a i := fun a i z => F_n F (show ¬ (a = 77 ∧ i = 2 ∨ 94 ≤ a ∧ a ≤ 98 ∨ a = 120) by omega) rfl
theorem tg_592 {M M1 : mm_M} (F : FR (fun a i : Nat => a = 77 ∧ i = 2 ∨ 94 ≤ a ∧ a ≤ 98 ∨ a = 120) M M1) : ∀ a i : Nat, (a = 1 ∧ i = 1 ∨ a = 2 ∨ a = 78) → M1.2.1 a i = M.2.1 a i := fun a i z => F_n F (show ¬ (a = 77 ∧ i = 2 ∨ 94 ≤ a ∧ a ≤ 98 ∨ a = 120) by omega) rfl
theorem tg_593 {M M1 : mm_M} (F : FR (fun a i : Nat => a = 77 ∧ i = 2 ∨ 94 ≤ a ∧ a ≤ 98 ∨ a = 120) M M1) : ∀ a i : Nat, a = 79 → M1.2.1 a i = M.2.1 a i := fun a i z => F_n F (show ¬ (a = 77 ∧ i = 2 ∨ 94 ≤ a ∧ a ≤ 98 ∨ a = 120) by omega) rfl
theorem tg_594 {M M1 : mm_M} (F : FR (fun a i : Nat => a = 77 ∧ i = 2 ∨ 94 ≤ a ∧ a ≤ 98 ∨ a = 120) M M1) : ∀ a i : Nat, 88 ≤ a ∧ a ≤ 89 → M1.2.1 a i = M.2.1 a i := fun a i z => F_n F (show ¬ (a = 77 ∧ i = 2 ∨ 94 ≤ a ∧ a ≤ 98 ∨ a = 120) by omega) rfl
theorem tg_595 {M M1 : mm_M} (F : FR (fun a i : Nat => a = 77 ∧ i = 2 ∨ 94 ≤ a ∧ a ≤ 98 ∨ 121 ≤ a ∧ a ≤ 124) M M1) : ∀ a i : Nat, PI_r a → M1.2.1 a i = M.2.1 a i := fun a i z => F_n F (show ¬ (a = 77 ∧ i = 2 ∨ 94 ≤ a ∧ a ≤ 98 ∨ 121 ≤ a ∧ a ≤ 124) by omega) rfl
theorem tg_596 {M M1 : mm_M} (F : FR (fun a i : Nat => a = 77 ∧ i = 2 ∨ 94 ≤ a ∧ a ≤ 98 ∨ 121 ≤ a ∧ a ≤ 124) M M1) : ∀ a i : Nat, (7 ≤ a ∧ a ≤ 9) → M1.2.1 a i = M.2.1 a i := fun a i z => F_n F (show ¬ (a = 77 ∧ i = 2 ∨ 94 ≤ a ∧ a ≤ 98 ∨ 121 ≤ a ∧ a ≤ 124) by omega) rfl
theorem tg_597 {M M1 : mm_M} (F : FR (fun a i : Nat => a = 77 ∧ i = 2 ∨ 94 ≤ a ∧ a ≤ 98 ∨ 121 ≤ a ∧ a ≤ 124) M M1) : ∀ a i : Nat, (a = 68 ∨ a = 69 ∨ a = 73 ∨ a = 74) → M1.2.1 a i = M.2.1 a i := fun a i z => F_n F (show ¬ (a = 77 ∧ i = 2 ∨ 94 ≤ a ∧ a ≤ 98 ∨ 121 ≤ a ∧ a ≤ 124) by omega) rfl
theorem tg_598 {M M1 : mm_M} (F : FR (fun a i : Nat => a = 77 ∧ i = 2 ∨ 94 ≤ a ∧ a ≤ 98 ∨ 121 ≤ a ∧ a ≤ 124) M M1) : ∀ a i : Nat, (81 ≤ a ∧ a ≤ 84) → M1.2.1 a i = M.2.1 a i := fun a i z => F_n F (show ¬ (a = 77 ∧ i = 2 ∨ 94 ≤ a ∧ a ≤ 98 ∨ 121 ≤ a ∧ a ≤ 124) by omega) rfl
theorem tg_599 {M M1 : mm_M} (F : FR (fun a i : Nat => a = 77 ∧ i = 2 ∨ 94 ≤ a ∧ a ≤ 98 ∨ 121 ≤ a ∧ a ≤ 124) M M1) : ∀ a i : Nat, WC_r a i → M1.2.1 a i = M.2.1 a i := fun a i z => F_n F (show ¬ (a = 77 ∧ i = 2 ∨ 94 ≤ a ∧ a ≤ 98 ∨ 121 ≤ a ∧ a ≤ 124) by omega) rfl
theorem tg_600 {M M1 : mm_M} (F : FR (fun a i : Nat => a = 77 ∧ i = 2 ∨ 94 ≤ a ∧ a ≤ 98 ∨ 121 ≤ a ∧ a ≤ 124) M M1) : ∀ a i : Nat, NJ_r a i → M1.2.1 a i = M.2.1 a i := fun a i z => F_n F (show ¬ (a = 77 ∧ i = 2 ∨ 94 ≤ a ∧ a ≤ 98 ∨ 121 ≤ a ∧ a ≤ 124) by omega) rfl
theorem tg_601 {M M1 : mm_M} (F : FR (fun a i : Nat => a = 77 ∧ i = 2 ∨ 94 ≤ a ∧ a ≤ 98 ∨ 121 ≤ a ∧ a ≤ 124) M M1) : ∀ a i : Nat, (a = 100 ∨ a = 77 ∧ i = 28) → M1.2.1 a i = M.2.1 a i := fun a i z => F_n F (show ¬ (a = 77 ∧ i = 2 ∨ 94 ≤ a ∧ a ≤ 98 ∨ 121 ≤ a ∧ a ≤ 124) by omega) rfl
theorem tg_602 {M M1 : mm_M} (F : FR (fun a i : Nat => a = 77 ∧ i = 2 ∨ 94 ≤ a ∧ a ≤ 98 ∨ 121 ≤ a ∧ a ≤ 124) M M1) : ∀ a i : Nat, KQ_r a i → M1.2.1 a i = M.2.1 a i := fun a i z => F_n F (show ¬ (a = 77 ∧ i = 2 ∨ 94 ≤ a ∧ a ≤ 98 ∨ 121 ≤ a ∧ a ≤ 124) by omega) rfl
theorem tg_603 {M M1 : mm_M} (F : FR (fun a i : Nat => a = 77 ∧ i = 2 ∨ 94 ≤ a ∧ a ≤ 98 ∨ 121 ≤ a ∧ a ≤ 124) M M1) : ∀ a i : Nat, (a = 1 ∧ i = 1 ∨ a = 2 ∨ a = 78) → M1.2.1 a i = M.2.1 a i := fun a i z => F_n F (show ¬ (a = 77 ∧ i = 2 ∨ 94 ≤ a ∧ a ≤ 98 ∨ 121 ≤ a ∧ a ≤ 124) by omega) rfl
theorem tg_604 {M M1 : mm_M} (F : FR (fun a i : Nat => a = 77 ∧ i = 2 ∨ 94 ≤ a ∧ a ≤ 98 ∨ 121 ≤ a ∧ a ≤ 124) M M1) : ∀ a i : Nat, a = 79 → M1.2.1 a i = M.2.1 a i := fun a i z => F_n F (show ¬ (a = 77 ∧ i = 2 ∨ 94 ≤ a ∧ a ≤ 98 ∨ 121 ≤ a ∧ a ≤ 124) by omega) rfl
theorem tg_605 {M M1 : mm_M} (F : FR (fun a i : Nat => a = 77 ∧ i = 2 ∨ 94 ≤ a ∧ a ≤ 98 ∨ 121 ≤ a ∧ a ≤ 124) M M1) : ∀ a i : Nat, 88 ≤ a ∧ a ≤ 89 → M1.2.1 a i = M.2.1 a i := fun a i z => F_n F (show ¬ (a = 77 ∧ i = 2 ∨ 94 ≤ a ∧ a ≤ 98 ∨ 121 ≤ a ∧ a ≤ 124) by omega) rfl
theorem tg_606 : ∀ a i : Nat, (49 ≤ a ∧ a ≤ 66 ∨ a = 77 ∧ 11 ≤ i ∧ i ≤ 13 ∨ 80 ≤ a ∧ a ≤ 87 ∨ 6 ≤ a ∧ a ≤ 10 ∨ 90 ≤ a ∧ a ≤ 93 ∨ a = 0 ∧ i = 12) → ¬ (a = 77 ∧ (i = 2 ∨ i = 41)) := fun a i z => by omega
theorem tg_607 : ∀ a i : Nat, (49 ≤ a ∧ a ≤ 66 ∨ a = 77 ∧ 11 ≤ i ∧ i ≤ 13 ∨ 80 ≤ a ∧ a ≤ 87 ∨ 6 ≤ a ∧ a ≤ 10 ∨ 90 ≤ a ∧ a ≤ 93 ∨ a = 0 ∧ i = 12) → ¬ (a = 17) := fun a i z => by omega
theorem tg_608 : ∀ a i : Nat, (49 ≤ a ∧ a ≤ 66 ∨ a = 77 ∧ 11 ≤ i ∧ i ≤ 13 ∨ 80 ≤ a ∧ a ≤ 87 ∨ 6 ≤ a ∧ a ≤ 10 ∨ 90 ≤ a ∧ a ≤ 93 ∨ a = 0 ∧ i = 12) → ¬ (a = 77 ∧ (i = 2 ∨ i = 41) ∨ a = 99 ∨ a = 100) := fun a i z => by omega
theorem tg_609 : ∀ a i : Nat, (49 ≤ a ∧ a ≤ 66 ∨ a = 77 ∧ 11 ≤ i ∧ i ≤ 13 ∨ 80 ≤ a ∧ a ≤ 87 ∨ 6 ≤ a ∧ a ≤ 10 ∨ 90 ≤ a ∧ a ≤ 93 ∨ a = 0 ∧ i = 12) → ¬ (17 ≤ a ∧ a ≤ 27) := fun a i z => by omega
theorem tg_610 : ∀ a i : Nat, (49 ≤ a ∧ a ≤ 66 ∨ a = 77 ∧ 11 ≤ i ∧ i ≤ 13 ∨ 80 ≤ a ∧ a ≤ 87 ∨ 6 ≤ a ∧ a ≤ 10 ∨ 90 ≤ a ∧ a ≤ 93 ∨ a = 0 ∧ i = 12) → ¬ (a = 77 ∧ i = 2 ∨ 94 ≤ a ∧ a ≤ 98 ∨ a = 117) := fun a i z => by omega
theorem tg_611 : ∀ a i : Nat, (49 ≤ a ∧ a ≤ 66 ∨ a = 77 ∧ 11 ≤ i ∧ i ≤ 13 ∨ 80 ≤ a ∧ a ≤ 87 ∨ 6 ≤ a ∧ a ≤ 10 ∨ 90 ≤ a ∧ a ≤ 93 ∨ a = 0 ∧ i = 12) → ¬ (11 ≤ a ∧ a ≤ 16 ∨ a = 71 ∨ a = 76) := fun a i z => by omega
theorem tg_612 : ∀ a i : Nat, (49 ≤ a ∧ a ≤ 66 ∨ a = 77 ∧ 11 ≤ i ∧ i ≤ 13 ∨ 80 ≤ a ∧ a ≤ 87 ∨ 6 ≤ a ∧ a ≤ 10 ∨ 90 ≤ a ∧ a ≤ 93 ∨ a = 0 ∧ i = 12) → ¬ (a = 77 ∧ i = 2 ∨ 94 ≤ a ∧ a ≤ 98 ∨ a = 118) := fun a i z => by omega
theorem tg_613 : ∀ a i : Nat, (49 ≤ a ∧ a ≤ 66 ∨ a = 77 ∧ 11 ≤ i ∧ i ≤ 13 ∨ 80 ≤ a ∧ a ≤ 87 ∨ 6 ≤ a ∧ a ≤ 10 ∨ 90 ≤ a ∧ a ≤ 93 ∨ a = 0 ∧ i = 12) → ¬ (a = 77 ∧ i = 2 ∨ 94 ≤ a ∧ a ≤ 98 ∨ a = 119) := fun a i z => by omega
theorem tg_614 : ∀ a i : Nat, (49 ≤ a ∧ a ≤ 66 ∨ a = 77 ∧ 11 ≤ i ∧ i ≤ 13 ∨ 80 ≤ a ∧ a ≤ 87 ∨ 6 ≤ a ∧ a ≤ 10 ∨ 90 ≤ a ∧ a ≤ 93 ∨ a = 0 ∧ i = 12) → ¬ (a = 77 ∧ i = 2 ∨ 94 ≤ a ∧ a ≤ 98 ∨ a = 120) := fun a i z => by omega
theorem tg_615 : ∀ a i : Nat, (49 ≤ a ∧ a ≤ 66 ∨ a = 77 ∧ 11 ≤ i ∧ i ≤ 13 ∨ 80 ≤ a ∧ a ≤ 87 ∨ 6 ≤ a ∧ a ≤ 10 ∨ 90 ≤ a ∧ a ≤ 93 ∨ a = 0 ∧ i = 12) → ¬ (a = 77 ∧ i = 2 ∨ 94 ≤ a ∧ a ≤ 98 ∨ 121 ≤ a ∧ a ≤ 124) := fun a i z => by omega
set_option maxRecDepth 4000 in
set_option maxHeartbeats 0 in
theorem LW_15 {X : mm_X} {d L : Nat} {M : mm_M} {Q : Option Value → mm_M → Prop} {i : Int32} {u5 u6 : Value} (hX : g_X X) (hW : g_W X) (hW2 : g_W2 X) (hL : (X 0).1 = L) (h3 : L ≤ 3072) (hd : 40 ≤ d) (hi : 0 ≤ i.toInt) (hi2 : i.toInt + 6 ≤ (L : Int)) (H : LI9 M) (h : ∀ (M1 : mm_M) (v5 v6 : Value), LI9 M1 → M1.1.2.1 ≤ M.1.2.1 + 1 → M1.1.2.2.1 ≤ M.1.2.2.1 + 6 → mm_T X d 0 1314 [.ref mm_ext, .ref 0, .ref 77, .ref 125, .int i, v5, v6] [] M1 Q) : mm_T X d 0 727 [.ref mm_ext, .ref 0, .ref 77, .ref 125, .int i, u5, u6] [] M Q := by
  obtain ⟨⟨⟨⟨⟨⟨⟨⟨hG, ⟨jPI, jNI, jQI, jPQE⟩, ⟨jFA, jWC, jNJ, jPS, jKQ⟩, jJ, jE⟩, jTP, jW9⟩, jNE, jCC⟩, -⟩, jOV⟩, jW8⟩, jNN⟩, jAN⟩ := H
  have b_1 := g_b hG (a := 77) (i := 7) (lo := 0) (hi := 500) rfl rfl
  have b_2 := g_b hG (a := 77) (i := 6) (lo := 0) (hi := 500) rfl rfl
  have b_3 := g_b hG (a := 1) (i := 1) (lo := 0) (hi := 500) rfl rfl
  have b_4 := g_b hG (a := 77) (i := 1) (lo := 0) (hi := 500) rfl rfl
  have b_5 := g_b hG (a := 0) (i := 12) (lo := 0) (hi := 30) rfl rfl
  have b_6 := g_b hG (a := 77) (i := 28) (lo := 0) (hi := 30) rfl rfl
  have b_7 := g_b hG (a := 6) (i := 0) (lo := 0) (hi := 150) rfl rfl
  have b_8 := g_b hG (a := 77) (i := 29) (lo := 0) (hi := 150) rfl rfl
  refine to_an (pc := 727) rw_0_727 rfl (to_an (pc := 728) rw_0_728 rfl (to_i (pc := 729) rw_0_729 rfl (to_c (pc := 731) rw_0_731 (x := (1 : Int32)) rfl rfl (s_add (pc := 732) rw_0_732 (A := i.toInt) (B := 1) rfl rfl (by omega) (fun v9 e10 => s_x0 (pc := 733) rw_0_733 hL (A := v9.toInt) rfl (by omega) (by omega) (fun v11 e12 => to_an (pc := 734) rw_0_734 rfl (to_i (pc := 735) rw_0_735 rfl (to_c (pc := 737) rw_0_737 (x := (2 : Int32)) rfl rfl (s_add (pc := 738) rw_0_738 (A := i.toInt) (B := 2) rfl rfl (by omega) (fun v13 e14 => s_x0 (pc := 739) rw_0_739 hL (A := v13.toInt) rfl (by omega) (by omega) (fun v15 e16 => s_v (pc := 740) rw_0_740 (dp0 hd (by decide)) (ls0 := [.ref 0, .int v11, .int v15]) rfl (Nat.le_of_ble_eq_true rfl) (Nat.le_of_ble_eq_true rfl) rfl (to_rc rfl rfl rfl (g_o hG rfl)) rfl ?_)))))))))))
  obtain ⟨pz17, pzz17, qz17, qzz17, hpz17, hpzz17, hqz17, hqzz17, hpqz17⟩ := id jPQE
  refine C_124 hX (dp1 hd (by decide)) hG hpz17 hpzz17 hqz17 hqzz17 hpqz17 jNI jPI jQI (n := v11) (c := v15) (p := pz17) (pz := pzz17) (q := qz17) (qz := qzz17) (fun r18 M24 hG20 F19 p_21 p_22 p_23 => ?_)
  have n_25 : M24.1.2.1 = M.1.2.1 ∧ M24.1.2.2.1 = M.1.2.2.1 := by rw [F19.1]; exact ⟨rfl, rfl⟩
  refine s_pop2 (pc := 743) rw_0_743 (to_an (pc := 744) rw_0_744 rfl (to_an (pc := 745) rw_0_745 rfl (to_i (pc := 746) rw_0_746 rfl (to_c (pc := 748) rw_0_748 (x := (1 : Int32)) rfl rfl (s_addk (pc := 749) rw_0_749 (A := i.toInt) (B := 1) rfl rfl (by omega) (v := v9) e10 (s_x0k (pc := 750) rw_0_750 hL (A := v9.toInt) rfl (by omega) (by omega) (v := v11) e12 (to_an (pc := 751) rw_0_751 rfl (to_i (pc := 752) rw_0_752 rfl (to_c (pc := 754) rw_0_754 (x := (2 : Int32)) rfl rfl (s_addk (pc := 755) rw_0_755 (A := i.toInt) (B := 2) rfl rfl (by omega) (v := v13) e14 (s_x0k (pc := 756) rw_0_756 hL (A := v13.toInt) rfl (by omega) (by omega) (v := v15) e16 ?_)))))))))))
  refine s_v (pc := 757) rw_0_757 (dp0 hd (by decide)) (ls0 := [.ref 77, .int v11, .int v15]) rfl (Nat.le_of_ble_eq_true rfl) (Nat.le_of_ble_eq_true rfl) rfl (to_rc rfl rfl rfl (g_o hG20 rfl)) rfl ?_
  have j_31 := (NJ_f (tg_438 F19) jNJ)
  refine C_200 hX (dp1 hd (by decide)) hG20 j_31 (n := v11) (c := v15) (fun r32 M35 hG34 F33 => ?_)
  have n_36 : M35.1.2.1 = M24.1.2.1 ∧ M35.1.2.2.1 = M24.1.2.2.1 := by rw [F33.1]; exact ⟨rfl, rfl⟩
  refine s_pop2 (pc := 760) rw_0_760 (to_go (pc := 761) rw_0_761 ?_)
  have c_38 : M35.2.1 77 7 = (M.2.1 77 7) := (F_n F33 (show ¬ (77 = 77 ∧ 7 = 2 ∨ 94 ≤ 77 ∧ 77 ≤ 98) by decide) (F_n F19 (show ¬ (11 ≤ 77 ∧ 77 ≤ 16 ∨ 18 ≤ 77 ∧ 77 ≤ 48 ∨ 67 ≤ 77 ∧ 77 ≤ 76) by decide) rfl))
  have t_39 : (M35.2.1 77 7).toInt = (M.2.1 77 7).toInt := congrArg Int32.toInt c_38
  have c_40 : M35.2.1 77 6 = (M.2.1 77 6) := (F_n F33 (show ¬ (77 = 77 ∧ 6 = 2 ∨ 94 ≤ 77 ∧ 77 ≤ 98) by decide) (F_n F19 (show ¬ (11 ≤ 77 ∧ 77 ≤ 16 ∨ 18 ≤ 77 ∧ 77 ≤ 48 ∨ 67 ≤ 77 ∧ 77 ≤ 76) by decide) rfl))
  have t_41 : (M35.2.1 77 6).toInt = (M.2.1 77 6).toInt := congrArg Int32.toInt c_40
  have c_42 : M35.2.1 1 1 = (M.2.1 1 1) := (F_n F33 (show ¬ (1 = 77 ∧ 1 = 2 ∨ 94 ≤ 1 ∧ 1 ≤ 98) by decide) (F_n F19 (show ¬ (11 ≤ 1 ∧ 1 ≤ 16 ∨ 18 ≤ 1 ∧ 1 ≤ 48 ∨ 67 ≤ 1 ∧ 1 ≤ 76) by decide) rfl))
  have t_43 : (M35.2.1 1 1).toInt = (M.2.1 1 1).toInt := congrArg Int32.toInt c_42
  have c_44 : M35.2.1 77 1 = (M.2.1 77 1) := (F_n F33 (show ¬ (77 = 77 ∧ 1 = 2 ∨ 94 ≤ 77 ∧ 77 ≤ 98) by decide) (F_n F19 (show ¬ (11 ≤ 77 ∧ 77 ≤ 16 ∨ 18 ≤ 77 ∧ 77 ≤ 48 ∨ 67 ≤ 77 ∧ 77 ≤ 76) by decide) rfl))
  have t_45 : (M35.2.1 77 1).toInt = (M.2.1 77 1).toInt := congrArg Int32.toInt c_44
  have c_46 : M35.2.1 0 12 = (M.2.1 0 12) := (F_n F33 (show ¬ (0 = 77 ∧ 12 = 2 ∨ 94 ≤ 0 ∧ 0 ≤ 98) by decide) (F_n F19 (show ¬ (11 ≤ 0 ∧ 0 ≤ 16 ∨ 18 ≤ 0 ∧ 0 ≤ 48 ∨ 67 ≤ 0 ∧ 0 ≤ 76) by decide) rfl))
  have t_47 : (M35.2.1 0 12).toInt = (M.2.1 0 12).toInt := congrArg Int32.toInt c_46
  have c_48 : M35.2.1 77 28 = (M.2.1 77 28) := (F_n F33 (show ¬ (77 = 77 ∧ 28 = 2 ∨ 94 ≤ 77 ∧ 77 ≤ 98) by decide) (F_n F19 (show ¬ (11 ≤ 77 ∧ 77 ≤ 16 ∨ 18 ≤ 77 ∧ 77 ≤ 48 ∨ 67 ≤ 77 ∧ 77 ≤ 76) by decide) rfl))
  have t_49 : (M35.2.1 77 28).toInt = (M.2.1 77 28).toInt := congrArg Int32.toInt c_48
  have c_50 : M35.2.1 17 4 = (M.2.1 17 4) := (F_n F33 (show ¬ (17 = 77 ∧ 4 = 2 ∨ 94 ≤ 17 ∧ 17 ≤ 98) by decide) (F_n F19 (show ¬ (11 ≤ 17 ∧ 17 ≤ 16 ∨ 18 ≤ 17 ∧ 17 ≤ 48 ∨ 67 ≤ 17 ∧ 17 ≤ 76) by decide) rfl))
  have t_51 : (M35.2.1 17 4).toInt = (M.2.1 17 4).toInt := congrArg Int32.toInt c_50
  have c_52 : M35.2.1 77 41 = (M.2.1 77 41) := (F_n F33 (show ¬ (77 = 77 ∧ 41 = 2 ∨ 94 ≤ 77 ∧ 77 ≤ 98) by decide) (F_n F19 (show ¬ (11 ≤ 77 ∧ 77 ≤ 16 ∨ 18 ≤ 77 ∧ 77 ≤ 48 ∨ 67 ≤ 77 ∧ 77 ≤ 76) by decide) rfl))
  have t_53 : (M35.2.1 77 41).toInt = (M.2.1 77 41).toInt := congrArg Int32.toInt c_52
  have c_54 : M35.2.1 6 0 = (M.2.1 6 0) := (F_n F33 (show ¬ (6 = 77 ∧ 0 = 2 ∨ 94 ≤ 6 ∧ 6 ≤ 98) by decide) (F_n F19 (show ¬ (11 ≤ 6 ∧ 6 ≤ 16 ∨ 18 ≤ 6 ∧ 6 ≤ 48 ∨ 67 ≤ 6 ∧ 6 ≤ 76) by decide) rfl))
  have t_55 : (M35.2.1 6 0).toInt = (M.2.1 6 0).toInt := congrArg Int32.toInt c_54
  have c_56 : M35.2.1 77 29 = (M.2.1 77 29) := (F_n F33 (show ¬ (77 = 77 ∧ 29 = 2 ∨ 94 ≤ 77 ∧ 77 ≤ 98) by decide) (F_n F19 (show ¬ (11 ≤ 77 ∧ 77 ≤ 16 ∨ 18 ≤ 77 ∧ 77 ≤ 48 ∨ 67 ≤ 77 ∧ 77 ≤ 76) by decide) rfl))
  have t_57 : (M35.2.1 77 29).toInt = (M.2.1 77 29).toInt := congrArg Int32.toInt c_56
  have j_58 := (PI_f (tg_439 F33) p_21)
  have j_59 := (NI_f (tg_440 F33) p_22)
  have j_60 := (QI_f (tg_441 F33) p_23)
  have j_61 := (PQE_r F33.2.1 (PQE_r F19.2.1 jPQE))
  have j_62 := (FA_f (tg_442 F33) (FA_f (tg_443 F19) jFA))
  have j_63 := (WC_f (tg_444 F33) (WC_f (tg_445 F19) jWC))
  have j_64 := (NJ_f (tg_446 F33) j_31)
  have j_65 := (PS_f (tg_447 F33) (PS_f (tg_448 F19) jPS))
  have j_66 := (KQ_f (tg_449 F33) (KQ_f (tg_450 F19) jKQ))
  have j_67 := (TP_f (tg_451 F33) (TP_f (tg_452 F19) jTP))
  have j_68 := (W9_f (tg_453 F33) (W9_f (tg_454 F19) jW9))
  have j_69 := (AN_F F33 tg_501 (AN_F F19 tg_502 jAN))
  have j_70 := (NE_r F33.2.1 (NE_r F19.2.1 jNE))
  have j_71 := (W8_f (tg_455 F33) (W8_f (tg_456 F19) jW8))
  exact h M35 (u5) (u6) ⟨⟨⟨⟨⟨⟨⟨⟨hG34, ⟨j_58, j_59, j_60, j_61⟩, ⟨j_62, j_63, j_64, j_65, j_66⟩, by omega, by omega⟩, j_67, j_68⟩, j_70, by omega⟩, AN_a j_69⟩, by omega⟩, j_71⟩, by omega⟩, j_69⟩ (by omega) (by omega)
set_option maxRecDepth 4000 in
set_option maxHeartbeats 0 in
theorem LW_16 {X : mm_X} {d L : Nat} {M : mm_M} {Q : Option Value → mm_M → Prop} {i : Int32} {u5 u6 : Value} (hX : g_X X) (hW : g_W X) (hW2 : g_W2 X) (hL : (X 0).1 = L) (h3 : L ≤ 3072) (hd : 40 ≤ d) (hi : 0 ≤ i.toInt) (hi2 : i.toInt + 6 ≤ (L : Int)) (H : LI9 M) (h : ∀ (M1 : mm_M) (v5 v6 : Value), LI9 M1 → M1.1.2.1 ≤ M.1.2.1 + 1 → M1.1.2.2.1 ≤ M.1.2.2.1 + 6 → mm_T X d 0 1314 [.ref mm_ext, .ref 0, .ref 77, .ref 125, .int i, v5, v6] [] M1 Q) : mm_T X d 0 764 [.ref mm_ext, .ref 0, .ref 77, .ref 125, .int i, u5, u6] [] M Q := by
  obtain ⟨⟨⟨⟨⟨⟨⟨⟨hG, ⟨jPI, jNI, jQI, jPQE⟩, ⟨jFA, jWC, jNJ, jPS, jKQ⟩, jJ, jE⟩, jTP, jW9⟩, jNE, jCC⟩, -⟩, jOV⟩, jW8⟩, jNN⟩, jAN⟩ := H
  have b_1 := g_b hG (a := 77) (i := 7) (lo := 0) (hi := 500) rfl rfl
  have b_2 := g_b hG (a := 77) (i := 6) (lo := 0) (hi := 500) rfl rfl
  have b_3 := g_b hG (a := 1) (i := 1) (lo := 0) (hi := 500) rfl rfl
  have b_4 := g_b hG (a := 77) (i := 1) (lo := 0) (hi := 500) rfl rfl
  have b_5 := g_b hG (a := 0) (i := 12) (lo := 0) (hi := 30) rfl rfl
  have b_6 := g_b hG (a := 77) (i := 28) (lo := 0) (hi := 30) rfl rfl
  have b_7 := g_b hG (a := 6) (i := 0) (lo := 0) (hi := 150) rfl rfl
  have b_8 := g_b hG (a := 77) (i := 29) (lo := 0) (hi := 150) rfl rfl
  refine to_an (pc := 764) rw_0_764 rfl (to_an (pc := 765) rw_0_765 rfl (to_i (pc := 766) rw_0_766 rfl (to_c (pc := 768) rw_0_768 (x := (1 : Int32)) rfl rfl (s_add (pc := 769) rw_0_769 (A := i.toInt) (B := 1) rfl rfl (by omega) (fun v9 e10 => s_x0 (pc := 770) rw_0_770 hL (A := v9.toInt) rfl (by omega) (by omega) (fun v11 e12 => to_an (pc := 771) rw_0_771 rfl (to_i (pc := 772) rw_0_772 rfl (to_c (pc := 774) rw_0_774 (x := (2 : Int32)) rfl rfl (s_add (pc := 775) rw_0_775 (A := i.toInt) (B := 2) rfl rfl (by omega) (fun v13 e14 => s_x0 (pc := 776) rw_0_776 hL (A := v13.toInt) rfl (by omega) (by omega) (fun v15 e16 => to_an (pc := 777) rw_0_777 rfl ?_)))))))))))
  refine to_i (pc := 778) rw_0_778 rfl (to_c (pc := 780) rw_0_780 (x := (3 : Int32)) rfl rfl (s_add (pc := 781) rw_0_781 (A := i.toInt) (B := 3) rfl rfl (by omega) (fun v17 e18 => s_x0 (pc := 782) rw_0_782 hL (A := v17.toInt) rfl (by omega) (by omega) (fun v19 e20 => s_v (pc := 783) rw_0_783 (dp0 hd (by decide)) (ls0 := [.ref 0, .int v11, .int v15, .int v19]) rfl (Nat.le_of_ble_eq_true rfl) (Nat.le_of_ble_eq_true rfl) rfl (to_rc rfl rfl rfl (g_o hG rfl)) rfl ?_))))
  obtain ⟨pz21, pzz21, qz21, qzz21, hpz21, hpzz21, hqz21, hqzz21, hpqz21⟩ := id jPQE
  refine C_125 hX (dp1 hd (by decide)) hG hpz21 hpzz21 hqz21 hqzz21 hpqz21 jNI jPI jQI (n := v11) (c := v15) (f := v19) (p := pz21) (pz := pzz21) (q := qz21) (qz := qzz21) (fun r22 M28 hG24 F23 p_25 p_26 p_27 => ?_)
  have n_29 : M28.1.2.1 = M.1.2.1 ∧ M28.1.2.2.1 = M.1.2.2.1 := by rw [F23.1]; exact ⟨rfl, rfl⟩
  refine to_popi (pc := 786) rw_0_786 (to_an (pc := 787) rw_0_787 rfl (to_an (pc := 788) rw_0_788 rfl (to_i (pc := 789) rw_0_789 rfl (to_c (pc := 791) rw_0_791 (x := (1 : Int32)) rfl rfl (s_addk (pc := 792) rw_0_792 (A := i.toInt) (B := 1) rfl rfl (by omega) (v := v9) e10 (s_x0k (pc := 793) rw_0_793 hL (A := v9.toInt) rfl (by omega) (by omega) (v := v11) e12 (to_an (pc := 794) rw_0_794 rfl (to_i (pc := 795) rw_0_795 rfl (to_c (pc := 797) rw_0_797 (x := (2 : Int32)) rfl rfl (s_addk (pc := 798) rw_0_798 (A := i.toInt) (B := 2) rfl rfl (by omega) (v := v13) e14 (s_x0k (pc := 799) rw_0_799 hL (A := v13.toInt) rfl (by omega) (by omega) (v := v15) e16 ?_)))))))))))
  refine to_an (pc := 800) rw_0_800 rfl (to_i (pc := 801) rw_0_801 rfl (to_c (pc := 803) rw_0_803 (x := (3 : Int32)) rfl rfl (s_addk (pc := 804) rw_0_804 (A := i.toInt) (B := 3) rfl rfl (by omega) (v := v17) e18 (s_x0k (pc := 805) rw_0_805 hL (A := v17.toInt) rfl (by omega) (by omega) (v := v19) e20 (s_v (pc := 806) rw_0_806 (dp0 hd (by decide)) (ls0 := [.ref 77, .int v11, .int v15, .int v19]) rfl (Nat.le_of_ble_eq_true rfl) (Nat.le_of_ble_eq_true rfl) rfl (to_rc rfl rfl rfl (g_o hG24 rfl)) rfl ?_)))))
  have j_37 := (NJ_f (tg_438 F23) jNJ)
  refine C_202 hX (dp1 hd (by decide)) hG24 j_37 (n := v11) (c := v15) (f := v19) (fun r38 M41 hG40 F39 => ?_)
  have n_42 : M41.1.2.1 = M28.1.2.1 ∧ M41.1.2.2.1 = M28.1.2.2.1 := by rw [F39.1]; exact ⟨rfl, rfl⟩
  refine to_popi (pc := 809) rw_0_809 (to_go (pc := 810) rw_0_810 ?_)
  have c_44 : M41.2.1 77 7 = (M.2.1 77 7) := (F_n F39 (show ¬ (77 = 77 ∧ 7 = 2 ∨ 94 ≤ 77 ∧ 77 ≤ 98) by decide) (F_n F23 (show ¬ (11 ≤ 77 ∧ 77 ≤ 16 ∨ 18 ≤ 77 ∧ 77 ≤ 48 ∨ 67 ≤ 77 ∧ 77 ≤ 76) by decide) rfl))
  have t_45 : (M41.2.1 77 7).toInt = (M.2.1 77 7).toInt := congrArg Int32.toInt c_44
  have c_46 : M41.2.1 77 6 = (M.2.1 77 6) := (F_n F39 (show ¬ (77 = 77 ∧ 6 = 2 ∨ 94 ≤ 77 ∧ 77 ≤ 98) by decide) (F_n F23 (show ¬ (11 ≤ 77 ∧ 77 ≤ 16 ∨ 18 ≤ 77 ∧ 77 ≤ 48 ∨ 67 ≤ 77 ∧ 77 ≤ 76) by decide) rfl))
  have t_47 : (M41.2.1 77 6).toInt = (M.2.1 77 6).toInt := congrArg Int32.toInt c_46
  have c_48 : M41.2.1 1 1 = (M.2.1 1 1) := (F_n F39 (show ¬ (1 = 77 ∧ 1 = 2 ∨ 94 ≤ 1 ∧ 1 ≤ 98) by decide) (F_n F23 (show ¬ (11 ≤ 1 ∧ 1 ≤ 16 ∨ 18 ≤ 1 ∧ 1 ≤ 48 ∨ 67 ≤ 1 ∧ 1 ≤ 76) by decide) rfl))
  have t_49 : (M41.2.1 1 1).toInt = (M.2.1 1 1).toInt := congrArg Int32.toInt c_48
  have c_50 : M41.2.1 77 1 = (M.2.1 77 1) := (F_n F39 (show ¬ (77 = 77 ∧ 1 = 2 ∨ 94 ≤ 77 ∧ 77 ≤ 98) by decide) (F_n F23 (show ¬ (11 ≤ 77 ∧ 77 ≤ 16 ∨ 18 ≤ 77 ∧ 77 ≤ 48 ∨ 67 ≤ 77 ∧ 77 ≤ 76) by decide) rfl))
  have t_51 : (M41.2.1 77 1).toInt = (M.2.1 77 1).toInt := congrArg Int32.toInt c_50
  have c_52 : M41.2.1 0 12 = (M.2.1 0 12) := (F_n F39 (show ¬ (0 = 77 ∧ 12 = 2 ∨ 94 ≤ 0 ∧ 0 ≤ 98) by decide) (F_n F23 (show ¬ (11 ≤ 0 ∧ 0 ≤ 16 ∨ 18 ≤ 0 ∧ 0 ≤ 48 ∨ 67 ≤ 0 ∧ 0 ≤ 76) by decide) rfl))
  have t_53 : (M41.2.1 0 12).toInt = (M.2.1 0 12).toInt := congrArg Int32.toInt c_52
  have c_54 : M41.2.1 77 28 = (M.2.1 77 28) := (F_n F39 (show ¬ (77 = 77 ∧ 28 = 2 ∨ 94 ≤ 77 ∧ 77 ≤ 98) by decide) (F_n F23 (show ¬ (11 ≤ 77 ∧ 77 ≤ 16 ∨ 18 ≤ 77 ∧ 77 ≤ 48 ∨ 67 ≤ 77 ∧ 77 ≤ 76) by decide) rfl))
  have t_55 : (M41.2.1 77 28).toInt = (M.2.1 77 28).toInt := congrArg Int32.toInt c_54
  have c_56 : M41.2.1 17 4 = (M.2.1 17 4) := (F_n F39 (show ¬ (17 = 77 ∧ 4 = 2 ∨ 94 ≤ 17 ∧ 17 ≤ 98) by decide) (F_n F23 (show ¬ (11 ≤ 17 ∧ 17 ≤ 16 ∨ 18 ≤ 17 ∧ 17 ≤ 48 ∨ 67 ≤ 17 ∧ 17 ≤ 76) by decide) rfl))
  have t_57 : (M41.2.1 17 4).toInt = (M.2.1 17 4).toInt := congrArg Int32.toInt c_56
  have c_58 : M41.2.1 77 41 = (M.2.1 77 41) := (F_n F39 (show ¬ (77 = 77 ∧ 41 = 2 ∨ 94 ≤ 77 ∧ 77 ≤ 98) by decide) (F_n F23 (show ¬ (11 ≤ 77 ∧ 77 ≤ 16 ∨ 18 ≤ 77 ∧ 77 ≤ 48 ∨ 67 ≤ 77 ∧ 77 ≤ 76) by decide) rfl))
  have t_59 : (M41.2.1 77 41).toInt = (M.2.1 77 41).toInt := congrArg Int32.toInt c_58
  have c_60 : M41.2.1 6 0 = (M.2.1 6 0) := (F_n F39 (show ¬ (6 = 77 ∧ 0 = 2 ∨ 94 ≤ 6 ∧ 6 ≤ 98) by decide) (F_n F23 (show ¬ (11 ≤ 6 ∧ 6 ≤ 16 ∨ 18 ≤ 6 ∧ 6 ≤ 48 ∨ 67 ≤ 6 ∧ 6 ≤ 76) by decide) rfl))
  have t_61 : (M41.2.1 6 0).toInt = (M.2.1 6 0).toInt := congrArg Int32.toInt c_60
  have c_62 : M41.2.1 77 29 = (M.2.1 77 29) := (F_n F39 (show ¬ (77 = 77 ∧ 29 = 2 ∨ 94 ≤ 77 ∧ 77 ≤ 98) by decide) (F_n F23 (show ¬ (11 ≤ 77 ∧ 77 ≤ 16 ∨ 18 ≤ 77 ∧ 77 ≤ 48 ∨ 67 ≤ 77 ∧ 77 ≤ 76) by decide) rfl))
  have t_63 : (M41.2.1 77 29).toInt = (M.2.1 77 29).toInt := congrArg Int32.toInt c_62
  have j_64 := (PI_f (tg_439 F39) p_25)
  have j_65 := (NI_f (tg_440 F39) p_26)
  have j_66 := (QI_f (tg_441 F39) p_27)
  have j_67 := (PQE_r F39.2.1 (PQE_r F23.2.1 jPQE))
  have j_68 := (FA_f (tg_442 F39) (FA_f (tg_443 F23) jFA))
  have j_69 := (WC_f (tg_444 F39) (WC_f (tg_445 F23) jWC))
  have j_70 := (NJ_f (tg_446 F39) j_37)
  have j_71 := (PS_f (tg_447 F39) (PS_f (tg_448 F23) jPS))
  have j_72 := (KQ_f (tg_449 F39) (KQ_f (tg_450 F23) jKQ))
  have j_73 := (TP_f (tg_451 F39) (TP_f (tg_452 F23) jTP))
  have j_74 := (W9_f (tg_453 F39) (W9_f (tg_454 F23) jW9))
  have j_75 := (AN_F F39 tg_501 (AN_F F23 tg_502 jAN))
  have j_76 := (NE_r F39.2.1 (NE_r F23.2.1 jNE))
  have j_77 := (W8_f (tg_455 F39) (W8_f (tg_456 F23) jW8))
  exact h M41 (u5) (u6) ⟨⟨⟨⟨⟨⟨⟨⟨hG40, ⟨j_64, j_65, j_66, j_67⟩, ⟨j_68, j_69, j_70, j_71, j_72⟩, by omega, by omega⟩, j_73, j_74⟩, j_76, by omega⟩, AN_a j_75⟩, by omega⟩, j_77⟩, by omega⟩, j_75⟩ (by omega) (by omega)
set_option maxRecDepth 4000 in
set_option maxHeartbeats 0 in
theorem LW_17 {X : mm_X} {d L : Nat} {M : mm_M} {Q : Option Value → mm_M → Prop} {i : Int32} {u5 u6 : Value} (hX : g_X X) (hW : g_W X) (hW2 : g_W2 X) (hL : (X 0).1 = L) (h3 : L ≤ 3072) (hd : 40 ≤ d) (hi : 0 ≤ i.toInt) (hi2 : i.toInt + 6 ≤ (L : Int)) (H : LI9 M) (h : ∀ (M1 : mm_M) (v5 v6 : Value), LI9 M1 → M1.1.2.1 ≤ M.1.2.1 + 1 → M1.1.2.2.1 ≤ M.1.2.2.1 + 6 → mm_T X d 0 1314 [.ref mm_ext, .ref 0, .ref 77, .ref 125, .int i, v5, v6] [] M1 Q) : mm_T X d 0 813 [.ref mm_ext, .ref 0, .ref 77, .ref 125, .int i, u5, u6] [] M Q := by
  obtain ⟨⟨⟨⟨⟨⟨⟨⟨hG, ⟨jPI, jNI, jQI, jPQE⟩, ⟨jFA, jWC, jNJ, jPS, jKQ⟩, jJ, jE⟩, jTP, jW9⟩, jNE, jCC⟩, -⟩, jOV⟩, jW8⟩, jNN⟩, jAN⟩ := H
  have b_1 := g_b hG (a := 77) (i := 7) (lo := 0) (hi := 500) rfl rfl
  have b_2 := g_b hG (a := 77) (i := 6) (lo := 0) (hi := 500) rfl rfl
  have b_3 := g_b hG (a := 1) (i := 1) (lo := 0) (hi := 500) rfl rfl
  have b_4 := g_b hG (a := 77) (i := 1) (lo := 0) (hi := 500) rfl rfl
  have b_5 := g_b hG (a := 0) (i := 12) (lo := 0) (hi := 30) rfl rfl
  have b_6 := g_b hG (a := 77) (i := 28) (lo := 0) (hi := 30) rfl rfl
  have b_7 := g_b hG (a := 6) (i := 0) (lo := 0) (hi := 150) rfl rfl
  have b_8 := g_b hG (a := 77) (i := 29) (lo := 0) (hi := 150) rfl rfl
  refine to_an (pc := 813) rw_0_813 rfl (to_an (pc := 814) rw_0_814 rfl (to_i (pc := 815) rw_0_815 rfl (to_c (pc := 817) rw_0_817 (x := (1 : Int32)) rfl rfl (s_add (pc := 818) rw_0_818 (A := i.toInt) (B := 1) rfl rfl (by omega) (fun v9 e10 => s_x0 (pc := 819) rw_0_819 hL (A := v9.toInt) rfl (by omega) (by omega) (fun v11 e12 => s_v (pc := 820) rw_0_820 (dp0 hd (by decide)) (ls0 := [.ref 0, .int v11]) rfl (Nat.le_of_ble_eq_true rfl) (Nat.le_of_ble_eq_true rfl) rfl (to_rc rfl rfl rfl (g_o hG rfl)) rfl ?_))))))
  obtain ⟨pz13, pzz13, qz13, qzz13, hpz13, hpzz13, hqz13, hqzz13, hpqz13⟩ := id jPQE
  refine E_126 hX (dp1 hd (by decide)) hG hpz13 hpzz13 hqz13 hqzz13 hpqz13 jPI jNI jQI (c := v11) (p := pz13) (pz := pzz13) (q := qz13) (qz := qzz13) (fun r14 M26 hG16 F15 p_17 p_18 p_19 p_20 p_21 p_22 p_23 p_24 p_25 => ?_)
  have n_27 : M26.1.2.1 = M.1.2.1 ∧ M26.1.2.2.1 = M.1.2.2.1 := by rw [F15.1]; exact ⟨rfl, rfl⟩
  refine to_popi (pc := 823) rw_0_823 (to_an (pc := 824) rw_0_824 rfl (to_an (pc := 825) rw_0_825 rfl (to_i (pc := 826) rw_0_826 rfl (to_c (pc := 828) rw_0_828 (x := (1 : Int32)) rfl rfl (s_addk (pc := 829) rw_0_829 (A := i.toInt) (B := 1) rfl rfl (by omega) (v := v9) e10 (s_x0k (pc := 830) rw_0_830 hL (A := v9.toInt) rfl (by omega) (by omega) (v := v11) e12 (s_v (pc := 831) rw_0_831 (dp0 hd (by decide)) (ls0 := [.ref 77, .int v11]) rfl (Nat.le_of_ble_eq_true rfl) (Nat.le_of_ble_eq_true rfl) rfl (to_rc rfl rfl rfl (g_o hG16 rfl)) rfl ?_)))))))
  have c_31 : M26.2.1 77 28 = (M.2.1 77 28) := (F_n F15 (show ¬ (77 = 17) by decide) rfl)
  have t_32 : (M26.2.1 77 28).toInt = (M.2.1 77 28).toInt := congrArg Int32.toInt c_31
  have c_33 : M26.2.1 77 41 = (M.2.1 77 41) := (F_n F15 (show ¬ (77 = 17) by decide) rfl)
  have t_34 : (M26.2.1 77 41).toInt = (M.2.1 77 41).toInt := congrArg Int32.toInt c_33
  refine E_203 hX (dp1 hd (by decide)) hG16 (c := v11) (fun r35 M44 hG37 F36 p_38 p_39 p_40 p_41 p_42 p_43 => ?_)
  have n_45 : M44.1.2.1 = M26.1.2.1 ∧ M44.1.2.2.1 = M26.1.2.2.1 := by rw [F36.1]; exact ⟨rfl, rfl⟩
  have c_47 : M44.2.1 17 4 = (M26.2.1 17 4) := (F_n F36 (show ¬ (17 = 77 ∧ (4 = 2 ∨ 4 = 41)) by decide) rfl)
  have t_48 : (M44.2.1 17 4).toInt = (M26.2.1 17 4).toInt := congrArg Int32.toInt c_47
  have c_49 : M44.2.1 6 0 = (M.2.1 6 0) := (F_n F36 (show ¬ (6 = 77 ∧ (0 = 2 ∨ 0 = 41)) by decide) (F_n F15 (show ¬ (6 = 17) by decide) rfl))
  have t_50 : (M44.2.1 6 0).toInt = (M.2.1 6 0).toInt := congrArg Int32.toInt c_49
  have c_51 : M44.2.1 77 29 = (M.2.1 77 29) := (F_n F36 (show ¬ (77 = 77 ∧ (29 = 2 ∨ 29 = 41)) by decide) (F_n F15 (show ¬ (77 = 17) by decide) rfl))
  have t_52 : (M44.2.1 77 29).toInt = (M.2.1 77 29).toInt := congrArg Int32.toInt c_51
  have z_53 : (M44.2.1 17 4).toInt = (M44.2.1 77 41).toInt := by
    by_cases g9 : 0 ≤ v11.toInt ∧ v11.toInt < (M.2.1 0 12).toInt
    · exact TV_e (M := M) (M1 := M26) (by omega) (p_25 (by omega)) (F_n F36 (show ¬ (17 = 77 ∧ (4 = 2 ∨ 4 = 41)) by decide) rfl) (F_n F15 (show ¬ (77 = 17) by decide) rfl) (p_43 (by omega))
    · omega
  refine to_popi (pc := 834) rw_0_834 (to_go (pc := 835) rw_0_835 ?_)
  have c_54 : M44.2.1 77 7 = (M.2.1 77 7) := (F_n F36 (show ¬ (77 = 77 ∧ (7 = 2 ∨ 7 = 41)) by decide) (F_n F15 (show ¬ (77 = 17) by decide) rfl))
  have t_55 : (M44.2.1 77 7).toInt = (M.2.1 77 7).toInt := congrArg Int32.toInt c_54
  have c_56 : M44.2.1 77 6 = (M.2.1 77 6) := (F_n F36 (show ¬ (77 = 77 ∧ (6 = 2 ∨ 6 = 41)) by decide) (F_n F15 (show ¬ (77 = 17) by decide) rfl))
  have t_57 : (M44.2.1 77 6).toInt = (M.2.1 77 6).toInt := congrArg Int32.toInt c_56
  have c_58 : M44.2.1 1 1 = (M.2.1 1 1) := (F_n F36 (show ¬ (1 = 77 ∧ (1 = 2 ∨ 1 = 41)) by decide) (F_n F15 (show ¬ (1 = 17) by decide) rfl))
  have t_59 : (M44.2.1 1 1).toInt = (M.2.1 1 1).toInt := congrArg Int32.toInt c_58
  have c_60 : M44.2.1 77 1 = (M.2.1 77 1) := (F_n F36 (show ¬ (77 = 77 ∧ (1 = 2 ∨ 1 = 41)) by decide) (F_n F15 (show ¬ (77 = 17) by decide) rfl))
  have t_61 : (M44.2.1 77 1).toInt = (M.2.1 77 1).toInt := congrArg Int32.toInt c_60
  have c_62 : M44.2.1 0 12 = (M.2.1 0 12) := (F_n F36 (show ¬ (0 = 77 ∧ (12 = 2 ∨ 12 = 41)) by decide) (F_n F15 (show ¬ (0 = 17) by decide) rfl))
  have t_63 : (M44.2.1 0 12).toInt = (M.2.1 0 12).toInt := congrArg Int32.toInt c_62
  have c_64 : M44.2.1 77 28 = (M.2.1 77 28) := (F_n F36 (show ¬ (77 = 77 ∧ (28 = 2 ∨ 28 = 41)) by decide) c_31)
  have t_65 : (M44.2.1 77 28).toInt = (M.2.1 77 28).toInt := congrArg Int32.toInt c_64
  have j_66 := (PI_f (tg_504 F36) p_21)
  have j_67 := (NI_f (tg_505 F36) p_22)
  have j_68 := (QI_f (tg_506 F36) p_23)
  have j_69 := (PQE_r F36.2.1 (PQE_r F15.2.1 jPQE))
  have j_70 := (FA_f (tg_507 F36) (FA_f (tg_508 F15) jFA))
  have j_71 := (WC_f (tg_509 F36) (WC_f (tg_510 F15) jWC))
  have j_72 := (NJ_f (tg_511 F36) (NJ_f (tg_512 F15) jNJ))
  have j_73 := (PS_f (tg_513 F36) (PS_f (tg_514 F15) jPS))
  have j_74 := (KQ_f (tg_515 F36) (KQ_f (tg_516 F15) jKQ))
  have j_75 := (TP_f (tg_517 F36) (TP_f (tg_518 F15) jTP))
  have j_76 := (W9_f (tg_519 F36) (W9_f (tg_520 F15) jW9))
  have j_77 := (AN_F F36 tg_606 (AN_F F15 tg_607 jAN))
  have j_78 := (NE_r F36.2.1 (NE_r F15.2.1 jNE))
  have j_79 := (W8_f (tg_521 F36) (W8_f (tg_522 F15) jW8))
  exact h M44 (u5) (u6) ⟨⟨⟨⟨⟨⟨⟨⟨hG37, ⟨j_66, j_67, j_68, j_69⟩, ⟨j_70, j_71, j_72, j_73, j_74⟩, by omega, by omega⟩, j_75, j_76⟩, j_78, by omega⟩, AN_a j_77⟩, by omega⟩, j_79⟩, by omega⟩, j_77⟩ (by omega) (by omega)
set_option maxRecDepth 4000 in
set_option maxHeartbeats 0 in
theorem LW_18 {X : mm_X} {d L : Nat} {M : mm_M} {Q : Option Value → mm_M → Prop} {i : Int32} {u5 u6 : Value} (hX : g_X X) (hW : g_W X) (hW2 : g_W2 X) (hL : (X 0).1 = L) (h3 : L ≤ 3072) (hd : 40 ≤ d) (hi : 0 ≤ i.toInt) (hi2 : i.toInt + 6 ≤ (L : Int)) (H : LI9 M) (h : ∀ (M1 : mm_M) (v5 v6 : Value), LI9 M1 → M1.1.2.1 ≤ M.1.2.1 + 1 → M1.1.2.2.1 ≤ M.1.2.2.1 + 6 → mm_T X d 0 1314 [.ref mm_ext, .ref 0, .ref 77, .ref 125, .int i, v5, v6] [] M1 Q) : mm_T X d 0 838 [.ref mm_ext, .ref 0, .ref 77, .ref 125, .int i, u5, u6] [] M Q := by
  obtain ⟨⟨⟨⟨⟨⟨⟨⟨hG, ⟨jPI, jNI, jQI, jPQE⟩, ⟨jFA, jWC, jNJ, jPS, jKQ⟩, jJ, jE⟩, jTP, jW9⟩, jNE, jCC⟩, -⟩, jOV⟩, jW8⟩, jNN⟩, jAN⟩ := H
  have b_1 := g_b hG (a := 77) (i := 7) (lo := 0) (hi := 500) rfl rfl
  have b_2 := g_b hG (a := 77) (i := 6) (lo := 0) (hi := 500) rfl rfl
  have b_3 := g_b hG (a := 1) (i := 1) (lo := 0) (hi := 500) rfl rfl
  have b_4 := g_b hG (a := 77) (i := 1) (lo := 0) (hi := 500) rfl rfl
  have b_5 := g_b hG (a := 0) (i := 12) (lo := 0) (hi := 30) rfl rfl
  have b_6 := g_b hG (a := 77) (i := 28) (lo := 0) (hi := 30) rfl rfl
  have b_7 := g_b hG (a := 6) (i := 0) (lo := 0) (hi := 150) rfl rfl
  have b_8 := g_b hG (a := 77) (i := 29) (lo := 0) (hi := 150) rfl rfl
  refine to_an (pc := 838) rw_0_838 rfl (s_v (pc := 839) rw_0_839 (dp0 hd (by decide)) (ls0 := [.ref 0]) rfl (Nat.le_of_ble_eq_true rfl) (Nat.le_of_ble_eq_true rfl) rfl (to_rc rfl rfl rfl (g_o hG rfl)) rfl ?_)
  obtain ⟨pz9, pzz9, qz9, qzz9, hpz9, hpzz9, hqz9, hqzz9, hpqz9⟩ := id jPQE
  refine C_127 hX (dp1 hd (by decide)) hG hpz9 hpzz9 hqz9 hqzz9 hpqz9 (p := pz9) (pz := pzz9) (q := qz9) (qz := qzz9) (fun r10 M14 hG12 F11 p_13 => ?_)
  have n_15 : M14.1.2.1 = M.1.2.1 ∧ M14.1.2.2.1 = M.1.2.2.1 := by rw [F11.1]; exact ⟨rfl, rfl⟩
  refine to_popi (pc := 842) rw_0_842 (to_an (pc := 843) rw_0_843 rfl (s_v (pc := 844) rw_0_844 (dp0 hd (by decide)) (ls0 := [.ref 77]) rfl (Nat.le_of_ble_eq_true rfl) (Nat.le_of_ble_eq_true rfl) rfl (to_rc rfl rfl rfl (g_o hG12 rfl)) rfl ?_))
  have c_17 : M14.2.1 77 41 = (M.2.1 77 41) := (F_n F11 (show ¬ (77 < 0) by decide) rfl)
  have t_18 : (M14.2.1 77 41).toInt = (M.2.1 77 41).toInt := congrArg Int32.toInt c_17
  refine C_204 hX (dp1 hd (by decide)) hG12  (fun r19 M23 hG21 F20 p_22 => ?_)
  have n_24 : M23.1.2.1 = M14.1.2.1 ∧ M23.1.2.2.1 = M14.1.2.2.1 := by rw [F20.1]; exact ⟨rfl, rfl⟩
  refine to_popi (pc := 847) rw_0_847 (to_go (pc := 848) rw_0_848 ?_)
  have c_26 : M23.2.1 77 7 = (M.2.1 77 7) := (F_n F20 (show ¬ (77 = 77 ∧ 7 = 2) by decide) (F_n F11 (show ¬ (77 < 0) by decide) rfl))
  have t_27 : (M23.2.1 77 7).toInt = (M.2.1 77 7).toInt := congrArg Int32.toInt c_26
  have c_28 : M23.2.1 77 6 = (M.2.1 77 6) := (F_n F20 (show ¬ (77 = 77 ∧ 6 = 2) by decide) (F_n F11 (show ¬ (77 < 0) by decide) rfl))
  have t_29 : (M23.2.1 77 6).toInt = (M.2.1 77 6).toInt := congrArg Int32.toInt c_28
  have c_30 : M23.2.1 1 1 = (M.2.1 1 1) := (F_n F20 (show ¬ (1 = 77 ∧ 1 = 2) by decide) (F_n F11 (show ¬ (1 < 0) by decide) rfl))
  have t_31 : (M23.2.1 1 1).toInt = (M.2.1 1 1).toInt := congrArg Int32.toInt c_30
  have c_32 : M23.2.1 77 1 = (M.2.1 77 1) := (F_n F20 (show ¬ (77 = 77 ∧ 1 = 2) by decide) (F_n F11 (show ¬ (77 < 0) by decide) rfl))
  have t_33 : (M23.2.1 77 1).toInt = (M.2.1 77 1).toInt := congrArg Int32.toInt c_32
  have c_34 : M23.2.1 0 12 = (M.2.1 0 12) := (F_n F20 (show ¬ (0 = 77 ∧ 12 = 2) by decide) (F_n F11 (show ¬ (0 < 0) by decide) rfl))
  have t_35 : (M23.2.1 0 12).toInt = (M.2.1 0 12).toInt := congrArg Int32.toInt c_34
  have c_36 : M23.2.1 77 28 = (M.2.1 77 28) := (F_n F20 (show ¬ (77 = 77 ∧ 28 = 2) by decide) (F_n F11 (show ¬ (77 < 0) by decide) rfl))
  have t_37 : (M23.2.1 77 28).toInt = (M.2.1 77 28).toInt := congrArg Int32.toInt c_36
  have c_38 : M23.2.1 17 4 = (M.2.1 17 4) := (F_n F20 (show ¬ (17 = 77 ∧ 4 = 2) by decide) (F_n F11 (show ¬ (17 < 0) by decide) rfl))
  have t_39 : (M23.2.1 17 4).toInt = (M.2.1 17 4).toInt := congrArg Int32.toInt c_38
  have c_40 : M23.2.1 77 41 = (M.2.1 77 41) := (F_n F20 (show ¬ (77 = 77 ∧ 41 = 2) by decide) c_17)
  have t_41 : (M23.2.1 77 41).toInt = (M.2.1 77 41).toInt := congrArg Int32.toInt c_40
  have c_42 : M23.2.1 6 0 = (M.2.1 6 0) := (F_n F20 (show ¬ (6 = 77 ∧ 0 = 2) by decide) (F_n F11 (show ¬ (6 < 0) by decide) rfl))
  have t_43 : (M23.2.1 6 0).toInt = (M.2.1 6 0).toInt := congrArg Int32.toInt c_42
  have c_44 : M23.2.1 77 29 = (M.2.1 77 29) := (F_n F20 (show ¬ (77 = 77 ∧ 29 = 2) by decide) (F_n F11 (show ¬ (77 < 0) by decide) rfl))
  have t_45 : (M23.2.1 77 29).toInt = (M.2.1 77 29).toInt := congrArg Int32.toInt c_44
  have j_46 := (PI_f (tg_423 F20) (PI_f (tg_99 F11) jPI))
  have j_47 := (NI_f (tg_424 F20) (NI_f (tg_98 F11) jNI))
  have j_48 := (QI_f (tg_425 F20) (QI_f (tg_100 F11) jQI))
  have j_49 := (PQE_r F20.2.1 (PQE_r F11.2.1 jPQE))
  have j_50 := (FA_f (tg_426 F20) (FA_f (tg_218 F11) jFA))
  have j_51 := (WC_f (tg_427 F20) (WC_f (tg_428 F11) jWC))
  have j_52 := (NJ_f (tg_429 F20) (NJ_f (tg_102 F11) jNJ))
  have j_53 := (PS_f (tg_430 F20) (PS_f (tg_431 F11) jPS))
  have j_54 := (KQ_f (tg_432 F20) (KQ_f (tg_343 F11) jKQ))
  have j_55 := (TP_f (tg_433 F20) (TP_f (tg_434 F11) jTP))
  have j_56 := (W9_f (tg_435 F20) (W9_f (tg_46 F11) jW9))
  have j_57 := (AN_F F20 tg_499 (AN_F F11 tg_500 jAN))
  have j_58 := (NE_r F20.2.1 (NE_r F11.2.1 jNE))
  have j_59 := (W8_f (tg_436 F20) (W8_f (tg_437 F11) jW8))
  exact h M23 (u5) (u6) ⟨⟨⟨⟨⟨⟨⟨⟨hG21, ⟨j_46, j_47, j_48, j_49⟩, ⟨j_50, j_51, j_52, j_53, j_54⟩, by omega, by omega⟩, j_55, j_56⟩, j_58, by omega⟩, AN_a j_57⟩, by omega⟩, j_59⟩, by omega⟩, j_57⟩ (by omega) (by omega)
set_option maxRecDepth 4000 in
set_option maxHeartbeats 0 in
theorem LW_19 {X : mm_X} {d L : Nat} {M : mm_M} {Q : Option Value → mm_M → Prop} {i : Int32} {u5 u6 : Value} (hX : g_X X) (hW : g_W X) (hW2 : g_W2 X) (hL : (X 0).1 = L) (h3 : L ≤ 3072) (hd : 40 ≤ d) (hi : 0 ≤ i.toInt) (hi2 : i.toInt + 6 ≤ (L : Int)) (H : LI9 M) (h : ∀ (M1 : mm_M) (v5 v6 : Value), LI9 M1 → M1.1.2.1 ≤ M.1.2.1 + 1 → M1.1.2.2.1 ≤ M.1.2.2.1 + 6 → mm_T X d 0 1314 [.ref mm_ext, .ref 0, .ref 77, .ref 125, .int i, v5, v6] [] M1 Q) : mm_T X d 0 851 [.ref mm_ext, .ref 0, .ref 77, .ref 125, .int i, u5, u6] [] M Q := by
  obtain ⟨⟨⟨⟨⟨⟨⟨⟨hG, ⟨jPI, jNI, jQI, jPQE⟩, ⟨jFA, jWC, jNJ, jPS, jKQ⟩, jJ, jE⟩, jTP, jW9⟩, jNE, jCC⟩, -⟩, jOV⟩, jW8⟩, jNN⟩, jAN⟩ := H
  have b_1 := g_b hG (a := 77) (i := 7) (lo := 0) (hi := 500) rfl rfl
  have b_2 := g_b hG (a := 77) (i := 6) (lo := 0) (hi := 500) rfl rfl
  have b_3 := g_b hG (a := 1) (i := 1) (lo := 0) (hi := 500) rfl rfl
  have b_4 := g_b hG (a := 77) (i := 1) (lo := 0) (hi := 500) rfl rfl
  have b_5 := g_b hG (a := 0) (i := 12) (lo := 0) (hi := 30) rfl rfl
  have b_6 := g_b hG (a := 77) (i := 28) (lo := 0) (hi := 30) rfl rfl
  have b_7 := g_b hG (a := 6) (i := 0) (lo := 0) (hi := 150) rfl rfl
  have b_8 := g_b hG (a := 77) (i := 29) (lo := 0) (hi := 150) rfl rfl
  refine to_an (pc := 851) rw_0_851 rfl (to_an (pc := 852) rw_0_852 rfl (to_i (pc := 853) rw_0_853 rfl (to_c (pc := 855) rw_0_855 (x := (1 : Int32)) rfl rfl (s_add (pc := 856) rw_0_856 (A := i.toInt) (B := 1) rfl rfl (by omega) (fun v9 e10 => s_x0 (pc := 857) rw_0_857 hL (A := v9.toInt) rfl (by omega) (by omega) (fun v11 e12 => to_an (pc := 858) rw_0_858 rfl (to_i (pc := 859) rw_0_859 rfl (to_c (pc := 861) rw_0_861 (x := (2 : Int32)) rfl rfl (s_add (pc := 862) rw_0_862 (A := i.toInt) (B := 2) rfl rfl (by omega) (fun v13 e14 => s_x0 (pc := 863) rw_0_863 hL (A := v13.toInt) rfl (by omega) (by omega) (fun v15 e16 => s_v (pc := 864) rw_0_864 (dp0 hd (by decide)) (ls0 := [.ref 0, .int v11, .int v15]) rfl (Nat.le_of_ble_eq_true rfl) (Nat.le_of_ble_eq_true rfl) rfl (to_rc rfl rfl rfl (g_o hG rfl)) rfl ?_)))))))))))
  obtain ⟨pz17, pzz17, qz17, qzz17, hpz17, hpzz17, hqz17, hqzz17, hpqz17⟩ := id jPQE
  refine C_128 hX (dp1 hd (by decide)) hG hpz17 hpzz17 hqz17 hqzz17 hpqz17 (k := v11) (j := v15) (p := pz17) (pz := pzz17) (q := qz17) (qz := qzz17) (fun r18 M21 hG20 F19 => ?_)
  have n_22 : M21.1.2.1 = M.1.2.1 ∧ M21.1.2.2.1 = M.1.2.2.1 := by rw [F19.1]; exact ⟨rfl, rfl⟩
  refine to_popi (pc := 867) rw_0_867 (to_an (pc := 868) rw_0_868 rfl (to_an (pc := 869) rw_0_869 rfl (to_i (pc := 870) rw_0_870 rfl (to_c (pc := 872) rw_0_872 (x := (1 : Int32)) rfl rfl (s_addk (pc := 873) rw_0_873 (A := i.toInt) (B := 1) rfl rfl (by omega) (v := v9) e10 (s_x0k (pc := 874) rw_0_874 hL (A := v9.toInt) rfl (by omega) (by omega) (v := v11) e12 (to_an (pc := 875) rw_0_875 rfl (to_i (pc := 876) rw_0_876 rfl (to_c (pc := 878) rw_0_878 (x := (2 : Int32)) rfl rfl (s_addk (pc := 879) rw_0_879 (A := i.toInt) (B := 2) rfl rfl (by omega) (v := v13) e14 (s_x0k (pc := 880) rw_0_880 hL (A := v13.toInt) rfl (by omega) (by omega) (v := v15) e16 ?_)))))))))))
  refine s_v (pc := 881) rw_0_881 (dp0 hd (by decide)) (ls0 := [.ref 77, .int v11, .int v15]) rfl (Nat.le_of_ble_eq_true rfl) (Nat.le_of_ble_eq_true rfl) rfl (to_rc rfl rfl rfl (g_o hG20 rfl)) rfl (C_206 hX (dp1 hd (by decide)) hG20 (p := v11) (k := v15) (fun r28 M31 hG30 F29 => ?_))
  have n_32 : M31.1.2.1 = M21.1.2.1 ∧ M31.1.2.2.1 = M21.1.2.2.1 := by rw [F29.1]; exact ⟨rfl, rfl⟩
  refine to_popi (pc := 884) rw_0_884 (to_go (pc := 885) rw_0_885 ?_)
  have c_34 : M31.2.1 77 7 = (M.2.1 77 7) := (F_n F29 (show ¬ (77 = 77 ∧ 7 = 2) by decide) (F_n F19 (show ¬ (77 < 0) by decide) rfl))
  have t_35 : (M31.2.1 77 7).toInt = (M.2.1 77 7).toInt := congrArg Int32.toInt c_34
  have c_36 : M31.2.1 77 6 = (M.2.1 77 6) := (F_n F29 (show ¬ (77 = 77 ∧ 6 = 2) by decide) (F_n F19 (show ¬ (77 < 0) by decide) rfl))
  have t_37 : (M31.2.1 77 6).toInt = (M.2.1 77 6).toInt := congrArg Int32.toInt c_36
  have c_38 : M31.2.1 1 1 = (M.2.1 1 1) := (F_n F29 (show ¬ (1 = 77 ∧ 1 = 2) by decide) (F_n F19 (show ¬ (1 < 0) by decide) rfl))
  have t_39 : (M31.2.1 1 1).toInt = (M.2.1 1 1).toInt := congrArg Int32.toInt c_38
  have c_40 : M31.2.1 77 1 = (M.2.1 77 1) := (F_n F29 (show ¬ (77 = 77 ∧ 1 = 2) by decide) (F_n F19 (show ¬ (77 < 0) by decide) rfl))
  have t_41 : (M31.2.1 77 1).toInt = (M.2.1 77 1).toInt := congrArg Int32.toInt c_40
  have c_42 : M31.2.1 0 12 = (M.2.1 0 12) := (F_n F29 (show ¬ (0 = 77 ∧ 12 = 2) by decide) (F_n F19 (show ¬ (0 < 0) by decide) rfl))
  have t_43 : (M31.2.1 0 12).toInt = (M.2.1 0 12).toInt := congrArg Int32.toInt c_42
  have c_44 : M31.2.1 77 28 = (M.2.1 77 28) := (F_n F29 (show ¬ (77 = 77 ∧ 28 = 2) by decide) (F_n F19 (show ¬ (77 < 0) by decide) rfl))
  have t_45 : (M31.2.1 77 28).toInt = (M.2.1 77 28).toInt := congrArg Int32.toInt c_44
  have c_46 : M31.2.1 17 4 = (M.2.1 17 4) := (F_n F29 (show ¬ (17 = 77 ∧ 4 = 2) by decide) (F_n F19 (show ¬ (17 < 0) by decide) rfl))
  have t_47 : (M31.2.1 17 4).toInt = (M.2.1 17 4).toInt := congrArg Int32.toInt c_46
  have c_48 : M31.2.1 77 41 = (M.2.1 77 41) := (F_n F29 (show ¬ (77 = 77 ∧ 41 = 2) by decide) (F_n F19 (show ¬ (77 < 0) by decide) rfl))
  have t_49 : (M31.2.1 77 41).toInt = (M.2.1 77 41).toInt := congrArg Int32.toInt c_48
  have c_50 : M31.2.1 6 0 = (M.2.1 6 0) := (F_n F29 (show ¬ (6 = 77 ∧ 0 = 2) by decide) (F_n F19 (show ¬ (6 < 0) by decide) rfl))
  have t_51 : (M31.2.1 6 0).toInt = (M.2.1 6 0).toInt := congrArg Int32.toInt c_50
  have c_52 : M31.2.1 77 29 = (M.2.1 77 29) := (F_n F29 (show ¬ (77 = 77 ∧ 29 = 2) by decide) (F_n F19 (show ¬ (77 < 0) by decide) rfl))
  have t_53 : (M31.2.1 77 29).toInt = (M.2.1 77 29).toInt := congrArg Int32.toInt c_52
  have j_54 := (PI_f (tg_423 F29) (PI_f (tg_99 F19) jPI))
  have j_55 := (NI_f (tg_424 F29) (NI_f (tg_98 F19) jNI))
  have j_56 := (QI_f (tg_425 F29) (QI_f (tg_100 F19) jQI))
  have j_57 := (PQE_r F29.2.1 (PQE_r F19.2.1 jPQE))
  have j_58 := (FA_f (tg_426 F29) (FA_f (tg_218 F19) jFA))
  have j_59 := (WC_f (tg_427 F29) (WC_f (tg_428 F19) jWC))
  have j_60 := (NJ_f (tg_429 F29) (NJ_f (tg_102 F19) jNJ))
  have j_61 := (PS_f (tg_430 F29) (PS_f (tg_431 F19) jPS))
  have j_62 := (KQ_f (tg_432 F29) (KQ_f (tg_343 F19) jKQ))
  have j_63 := (TP_f (tg_433 F29) (TP_f (tg_434 F19) jTP))
  have j_64 := (W9_f (tg_435 F29) (W9_f (tg_46 F19) jW9))
  have j_65 := (AN_F F29 tg_499 (AN_F F19 tg_500 jAN))
  have j_66 := (NE_r F29.2.1 (NE_r F19.2.1 jNE))
  have j_67 := (W8_f (tg_436 F29) (W8_f (tg_437 F19) jW8))
  exact h M31 (u5) (u6) ⟨⟨⟨⟨⟨⟨⟨⟨hG30, ⟨j_54, j_55, j_56, j_57⟩, ⟨j_58, j_59, j_60, j_61, j_62⟩, by omega, by omega⟩, j_63, j_64⟩, j_66, by omega⟩, AN_a j_65⟩, by omega⟩, j_67⟩, by omega⟩, j_65⟩ (by omega) (by omega)
set_option maxRecDepth 4000 in
set_option maxHeartbeats 0 in
theorem LW_20 {X : mm_X} {d L : Nat} {M : mm_M} {Q : Option Value → mm_M → Prop} {i : Int32} {u5 u6 : Value} (hX : g_X X) (hW : g_W X) (hW2 : g_W2 X) (hL : (X 0).1 = L) (h3 : L ≤ 3072) (hd : 40 ≤ d) (hi : 0 ≤ i.toInt) (hi2 : i.toInt + 6 ≤ (L : Int)) (H : LI9 M) (h : ∀ (M1 : mm_M) (v5 v6 : Value), LI9 M1 → M1.1.2.1 ≤ M.1.2.1 + 1 → M1.1.2.2.1 ≤ M.1.2.2.1 + 6 → mm_T X d 0 1314 [.ref mm_ext, .ref 0, .ref 77, .ref 125, .int i, v5, v6] [] M1 Q) : mm_T X d 0 888 [.ref mm_ext, .ref 0, .ref 77, .ref 125, .int i, u5, u6] [] M Q := by
  obtain ⟨⟨⟨⟨⟨⟨⟨⟨hG, ⟨jPI, jNI, jQI, jPQE⟩, ⟨jFA, jWC, jNJ, jPS, jKQ⟩, jJ, jE⟩, jTP, jW9⟩, jNE, jCC⟩, -⟩, jOV⟩, jW8⟩, jNN⟩, jAN⟩ := H
  have b_1 := g_b hG (a := 77) (i := 7) (lo := 0) (hi := 500) rfl rfl
  have b_2 := g_b hG (a := 77) (i := 6) (lo := 0) (hi := 500) rfl rfl
  have b_3 := g_b hG (a := 1) (i := 1) (lo := 0) (hi := 500) rfl rfl
  have b_4 := g_b hG (a := 77) (i := 1) (lo := 0) (hi := 500) rfl rfl
  have b_5 := g_b hG (a := 0) (i := 12) (lo := 0) (hi := 30) rfl rfl
  have b_6 := g_b hG (a := 77) (i := 28) (lo := 0) (hi := 30) rfl rfl
  have b_7 := g_b hG (a := 6) (i := 0) (lo := 0) (hi := 150) rfl rfl
  have b_8 := g_b hG (a := 77) (i := 29) (lo := 0) (hi := 150) rfl rfl
  refine to_an (pc := 888) rw_0_888 rfl (to_an (pc := 889) rw_0_889 rfl (to_i (pc := 890) rw_0_890 rfl (to_c (pc := 892) rw_0_892 (x := (1 : Int32)) rfl rfl (s_add (pc := 893) rw_0_893 (A := i.toInt) (B := 1) rfl rfl (by omega) (fun v9 e10 => s_x0 (pc := 894) rw_0_894 hL (A := v9.toInt) rfl (by omega) (by omega) (fun v11 e12 => to_an (pc := 895) rw_0_895 rfl (to_i (pc := 896) rw_0_896 rfl (to_c (pc := 898) rw_0_898 (x := (2 : Int32)) rfl rfl (s_add (pc := 899) rw_0_899 (A := i.toInt) (B := 2) rfl rfl (by omega) (fun v13 e14 => s_x0 (pc := 900) rw_0_900 hL (A := v13.toInt) rfl (by omega) (by omega) (fun v15 e16 => s_i2l (pc := 901) rw_0_901 (fun l17 e18 => ?_))))))))))))
  refine to_c (pc := 902) rw_0_902 (x := (32 : Int32)) rfl rfl (s_anyS (pc := 904) rw_0_904 (fun _ _ => rfl) (fun l19 => to_an (pc := 905) rw_0_905 rfl (to_i (pc := 906) rw_0_906 rfl (to_c (pc := 908) rw_0_908 (x := (3 : Int32)) rfl rfl (s_add (pc := 909) rw_0_909 (A := i.toInt) (B := 3) rfl rfl (by omega) (fun v20 e21 => s_x0 (pc := 910) rw_0_910 hL (A := v20.toInt) rfl (by omega) (by omega) (fun v22 e23 => s_i2l (pc := 911) rw_0_911 (fun l24 e25 => s_cl (pc := 912) rw_0_912 rfl (fun l26 => s_anyL (pc := 915) rw_0_915 (fun _ _ => rfl) (fun l27 => s_anyL (pc := 916) rw_0_916 (fun _ _ => rfl) (fun l28 => s_v (pc := 917) rw_0_917 (dp0 hd (by decide)) (ls0 := [.ref 0, .int v11, .long l28, .null]) rfl (Nat.le_of_ble_eq_true rfl) (Nat.le_of_ble_eq_true rfl) rfl (to_rc rfl rfl rfl (g_o hG rfl)) rfl ?_)))))))))))
  obtain ⟨pz29, pzz29, qz29, qzz29, hpz29, hpzz29, hqz29, hqzz29, hpqz29⟩ := id jPQE
  refine C_129 hX (dp1 hd (by decide)) hG hpz29 hpzz29 hqz29 hqzz29 hpqz29 jNI jPI jQI (k := v11) (x := l28) (p := pz29) (pz := pzz29) (q := qz29) (qz := qzz29) (fun r30 M36 hG32 F31 p_33 p_34 p_35 => ?_)
  have n_37 : M36.1.2.1 = M.1.2.1 ∧ M36.1.2.2.1 = M.1.2.2.1 := by rw [F31.1]; exact ⟨rfl, rfl⟩
  refine to_popi (pc := 920) rw_0_920 (to_an (pc := 921) rw_0_921 rfl (to_an (pc := 922) rw_0_922 rfl (to_i (pc := 923) rw_0_923 rfl (to_c (pc := 925) rw_0_925 (x := (1 : Int32)) rfl rfl (s_addk (pc := 926) rw_0_926 (A := i.toInt) (B := 1) rfl rfl (by omega) (v := v9) e10 (s_x0k (pc := 927) rw_0_927 hL (A := v9.toInt) rfl (by omega) (by omega) (v := v11) e12 (to_an (pc := 928) rw_0_928 rfl (to_i (pc := 929) rw_0_929 rfl (to_c (pc := 931) rw_0_931 (x := (2 : Int32)) rfl rfl (s_addk (pc := 932) rw_0_932 (A := i.toInt) (B := 2) rfl rfl (by omega) (v := v13) e14 (s_x0k (pc := 933) rw_0_933 hL (A := v13.toInt) rfl (by omega) (by omega) (v := v15) e16 ?_)))))))))))
  refine s_i2l (pc := 934) rw_0_934 (fun l43 e44 => to_c (pc := 935) rw_0_935 (x := (32 : Int32)) rfl rfl (s_anyS (pc := 937) rw_0_937 (fun _ _ => rfl) (fun l45 => to_an (pc := 938) rw_0_938 rfl (to_i (pc := 939) rw_0_939 rfl (to_c (pc := 941) rw_0_941 (x := (3 : Int32)) rfl rfl (s_addk (pc := 942) rw_0_942 (A := i.toInt) (B := 3) rfl rfl (by omega) (v := v20) e21 (s_x0k (pc := 943) rw_0_943 hL (A := v20.toInt) rfl (by omega) (by omega) (v := v22) e23 (s_i2l (pc := 944) rw_0_944 (fun l48 e49 => s_cl (pc := 945) rw_0_945 rfl (fun l50 => s_anyL (pc := 948) rw_0_948 (fun _ _ => rfl) (fun l51 => s_anyL (pc := 949) rw_0_949 (fun _ _ => rfl) (fun l52 => ?_))))))))))))
  refine s_v (pc := 950) rw_0_950 (dp0 hd (by decide)) (ls0 := [.ref 77, .int v11, .long l52, .null, .null, .null]) rfl (Nat.le_of_ble_eq_true rfl) (Nat.le_of_ble_eq_true rfl) rfl (to_rc rfl rfl rfl (g_o hG32 rfl)) rfl ?_
  have j_53 := (NJ_f (tg_438 F31) jNJ)
  refine C_208 hX (dp1 hd (by decide)) hG32 j_53 (p := v11) (x := l52) (fun r54 M57 hG56 F55 => ?_)
  have n_58 : M57.1.2.1 = M36.1.2.1 ∧ M57.1.2.2.1 = M36.1.2.2.1 := by rw [F55.1]; exact ⟨rfl, rfl⟩
  refine to_popi (pc := 953) rw_0_953 (to_go (pc := 954) rw_0_954 ?_)
  have c_60 : M57.2.1 77 7 = (M.2.1 77 7) := (F_n F55 (show ¬ (77 = 77 ∧ 7 = 2 ∨ 94 ≤ 77 ∧ 77 ≤ 98) by decide) (F_n F31 (show ¬ (11 ≤ 77 ∧ 77 ≤ 16 ∨ 18 ≤ 77 ∧ 77 ≤ 48 ∨ 67 ≤ 77 ∧ 77 ≤ 76) by decide) rfl))
  have t_61 : (M57.2.1 77 7).toInt = (M.2.1 77 7).toInt := congrArg Int32.toInt c_60
  have c_62 : M57.2.1 77 6 = (M.2.1 77 6) := (F_n F55 (show ¬ (77 = 77 ∧ 6 = 2 ∨ 94 ≤ 77 ∧ 77 ≤ 98) by decide) (F_n F31 (show ¬ (11 ≤ 77 ∧ 77 ≤ 16 ∨ 18 ≤ 77 ∧ 77 ≤ 48 ∨ 67 ≤ 77 ∧ 77 ≤ 76) by decide) rfl))
  have t_63 : (M57.2.1 77 6).toInt = (M.2.1 77 6).toInt := congrArg Int32.toInt c_62
  have c_64 : M57.2.1 1 1 = (M.2.1 1 1) := (F_n F55 (show ¬ (1 = 77 ∧ 1 = 2 ∨ 94 ≤ 1 ∧ 1 ≤ 98) by decide) (F_n F31 (show ¬ (11 ≤ 1 ∧ 1 ≤ 16 ∨ 18 ≤ 1 ∧ 1 ≤ 48 ∨ 67 ≤ 1 ∧ 1 ≤ 76) by decide) rfl))
  have t_65 : (M57.2.1 1 1).toInt = (M.2.1 1 1).toInt := congrArg Int32.toInt c_64
  have c_66 : M57.2.1 77 1 = (M.2.1 77 1) := (F_n F55 (show ¬ (77 = 77 ∧ 1 = 2 ∨ 94 ≤ 77 ∧ 77 ≤ 98) by decide) (F_n F31 (show ¬ (11 ≤ 77 ∧ 77 ≤ 16 ∨ 18 ≤ 77 ∧ 77 ≤ 48 ∨ 67 ≤ 77 ∧ 77 ≤ 76) by decide) rfl))
  have t_67 : (M57.2.1 77 1).toInt = (M.2.1 77 1).toInt := congrArg Int32.toInt c_66
  have c_68 : M57.2.1 0 12 = (M.2.1 0 12) := (F_n F55 (show ¬ (0 = 77 ∧ 12 = 2 ∨ 94 ≤ 0 ∧ 0 ≤ 98) by decide) (F_n F31 (show ¬ (11 ≤ 0 ∧ 0 ≤ 16 ∨ 18 ≤ 0 ∧ 0 ≤ 48 ∨ 67 ≤ 0 ∧ 0 ≤ 76) by decide) rfl))
  have t_69 : (M57.2.1 0 12).toInt = (M.2.1 0 12).toInt := congrArg Int32.toInt c_68
  have c_70 : M57.2.1 77 28 = (M.2.1 77 28) := (F_n F55 (show ¬ (77 = 77 ∧ 28 = 2 ∨ 94 ≤ 77 ∧ 77 ≤ 98) by decide) (F_n F31 (show ¬ (11 ≤ 77 ∧ 77 ≤ 16 ∨ 18 ≤ 77 ∧ 77 ≤ 48 ∨ 67 ≤ 77 ∧ 77 ≤ 76) by decide) rfl))
  have t_71 : (M57.2.1 77 28).toInt = (M.2.1 77 28).toInt := congrArg Int32.toInt c_70
  have c_72 : M57.2.1 17 4 = (M.2.1 17 4) := (F_n F55 (show ¬ (17 = 77 ∧ 4 = 2 ∨ 94 ≤ 17 ∧ 17 ≤ 98) by decide) (F_n F31 (show ¬ (11 ≤ 17 ∧ 17 ≤ 16 ∨ 18 ≤ 17 ∧ 17 ≤ 48 ∨ 67 ≤ 17 ∧ 17 ≤ 76) by decide) rfl))
  have t_73 : (M57.2.1 17 4).toInt = (M.2.1 17 4).toInt := congrArg Int32.toInt c_72
  have c_74 : M57.2.1 77 41 = (M.2.1 77 41) := (F_n F55 (show ¬ (77 = 77 ∧ 41 = 2 ∨ 94 ≤ 77 ∧ 77 ≤ 98) by decide) (F_n F31 (show ¬ (11 ≤ 77 ∧ 77 ≤ 16 ∨ 18 ≤ 77 ∧ 77 ≤ 48 ∨ 67 ≤ 77 ∧ 77 ≤ 76) by decide) rfl))
  have t_75 : (M57.2.1 77 41).toInt = (M.2.1 77 41).toInt := congrArg Int32.toInt c_74
  have c_76 : M57.2.1 6 0 = (M.2.1 6 0) := (F_n F55 (show ¬ (6 = 77 ∧ 0 = 2 ∨ 94 ≤ 6 ∧ 6 ≤ 98) by decide) (F_n F31 (show ¬ (11 ≤ 6 ∧ 6 ≤ 16 ∨ 18 ≤ 6 ∧ 6 ≤ 48 ∨ 67 ≤ 6 ∧ 6 ≤ 76) by decide) rfl))
  have t_77 : (M57.2.1 6 0).toInt = (M.2.1 6 0).toInt := congrArg Int32.toInt c_76
  have c_78 : M57.2.1 77 29 = (M.2.1 77 29) := (F_n F55 (show ¬ (77 = 77 ∧ 29 = 2 ∨ 94 ≤ 77 ∧ 77 ≤ 98) by decide) (F_n F31 (show ¬ (11 ≤ 77 ∧ 77 ≤ 16 ∨ 18 ≤ 77 ∧ 77 ≤ 48 ∨ 67 ≤ 77 ∧ 77 ≤ 76) by decide) rfl))
  have t_79 : (M57.2.1 77 29).toInt = (M.2.1 77 29).toInt := congrArg Int32.toInt c_78
  have j_80 := (PI_f (tg_439 F55) p_33)
  have j_81 := (NI_f (tg_440 F55) p_34)
  have j_82 := (QI_f (tg_441 F55) p_35)
  have j_83 := (PQE_r F55.2.1 (PQE_r F31.2.1 jPQE))
  have j_84 := (FA_f (tg_442 F55) (FA_f (tg_443 F31) jFA))
  have j_85 := (WC_f (tg_444 F55) (WC_f (tg_445 F31) jWC))
  have j_86 := (NJ_f (tg_446 F55) j_53)
  have j_87 := (PS_f (tg_447 F55) (PS_f (tg_448 F31) jPS))
  have j_88 := (KQ_f (tg_449 F55) (KQ_f (tg_450 F31) jKQ))
  have j_89 := (TP_f (tg_451 F55) (TP_f (tg_452 F31) jTP))
  have j_90 := (W9_f (tg_453 F55) (W9_f (tg_454 F31) jW9))
  have j_91 := (AN_F F55 tg_501 (AN_F F31 tg_502 jAN))
  have j_92 := (NE_r F55.2.1 (NE_r F31.2.1 jNE))
  have j_93 := (W8_f (tg_455 F55) (W8_f (tg_456 F31) jW8))
  exact h M57 (u5) (u6) ⟨⟨⟨⟨⟨⟨⟨⟨hG56, ⟨j_80, j_81, j_82, j_83⟩, ⟨j_84, j_85, j_86, j_87, j_88⟩, by omega, by omega⟩, j_89, j_90⟩, j_92, by omega⟩, AN_a j_91⟩, by omega⟩, j_93⟩, by omega⟩, j_91⟩ (by omega) (by omega)
set_option maxRecDepth 4000 in
set_option maxHeartbeats 0 in
theorem LW_21 {X : mm_X} {d L : Nat} {M : mm_M} {Q : Option Value → mm_M → Prop} {i : Int32} {u5 u6 : Value} (hX : g_X X) (hW : g_W X) (hW2 : g_W2 X) (hL : (X 0).1 = L) (h3 : L ≤ 3072) (hd : 40 ≤ d) (hi : 0 ≤ i.toInt) (hi2 : i.toInt + 6 ≤ (L : Int)) (H : LI9 M) (h : ∀ (M1 : mm_M) (v5 v6 : Value), LI9 M1 → M1.1.2.1 ≤ M.1.2.1 + 1 → M1.1.2.2.1 ≤ M.1.2.2.1 + 6 → mm_T X d 0 1314 [.ref mm_ext, .ref 0, .ref 77, .ref 125, .int i, v5, v6] [] M1 Q) : mm_T X d 0 957 [.ref mm_ext, .ref 0, .ref 77, .ref 125, .int i, u5, u6] [] M Q := by
  obtain ⟨⟨⟨⟨⟨⟨⟨⟨hG, ⟨jPI, jNI, jQI, jPQE⟩, ⟨jFA, jWC, jNJ, jPS, jKQ⟩, jJ, jE⟩, jTP, jW9⟩, jNE, jCC⟩, -⟩, jOV⟩, jW8⟩, jNN⟩, jAN⟩ := H
  have b_1 := g_b hG (a := 77) (i := 7) (lo := 0) (hi := 500) rfl rfl
  have b_2 := g_b hG (a := 77) (i := 6) (lo := 0) (hi := 500) rfl rfl
  have b_3 := g_b hG (a := 1) (i := 1) (lo := 0) (hi := 500) rfl rfl
  have b_4 := g_b hG (a := 77) (i := 1) (lo := 0) (hi := 500) rfl rfl
  have b_5 := g_b hG (a := 0) (i := 12) (lo := 0) (hi := 30) rfl rfl
  have b_6 := g_b hG (a := 77) (i := 28) (lo := 0) (hi := 30) rfl rfl
  have b_7 := g_b hG (a := 6) (i := 0) (lo := 0) (hi := 150) rfl rfl
  have b_8 := g_b hG (a := 77) (i := 29) (lo := 0) (hi := 150) rfl rfl
  refine to_an (pc := 957) rw_0_957 rfl (s_v (pc := 958) rw_0_958 (dp0 hd (by decide)) (ls0 := [.ref 0, .null]) rfl (Nat.le_of_ble_eq_true rfl) (Nat.le_of_ble_eq_true rfl) rfl (to_rc rfl rfl rfl (g_o hG rfl)) rfl ?_)
  obtain ⟨pz9, pzz9, qz9, qzz9, hpz9, hpzz9, hqz9, hqzz9, hpqz9⟩ := id jPQE
  refine C_130 hX (dp1 hd (by decide)) hG hpz9 hpzz9 hqz9 hqzz9 hpqz9 jPI jNI jQI (p := pz9) (pz := pzz9) (q := qz9) (qz := qzz9) (fun r10 M18 hG12 F11 p_13 p_14 p_15 p_16 p_17 => ?_)
  have n_19 : M18.1.2.1 = M.1.2.1 ∧ M18.1.2.2.1 = M.1.2.2.1 := by rw [F11.1]; exact ⟨rfl, rfl⟩
  refine to_popi (pc := 961) rw_0_961 (to_an (pc := 962) rw_0_962 rfl (s_v (pc := 963) rw_0_963 (dp0 hd (by decide)) (ls0 := [.ref 77, .null]) rfl (Nat.le_of_ble_eq_true rfl) (Nat.le_of_ble_eq_true rfl) rfl (to_rc rfl rfl rfl (g_o hG12 rfl)) rfl ?_))
  have c_21 : M18.2.1 77 28 = (M.2.1 77 28) := (F_n F11 (show ¬ (17 ≤ 77 ∧ 77 ≤ 27) by decide) rfl)
  have t_22 : (M18.2.1 77 28).toInt = (M.2.1 77 28).toInt := congrArg Int32.toInt c_21
  refine C_209 hX (dp1 hd (by decide)) hG12  (fun r23 M29 hG25 F24 p_26 p_27 p_28 => ?_)
  have n_30 : M29.1.2.1 = M18.1.2.1 ∧ M29.1.2.2.1 = M18.1.2.2.1 := by rw [F24.1]; exact ⟨rfl, rfl⟩
  refine to_popi (pc := 966) rw_0_966 (to_go (pc := 967) rw_0_967 ?_)
  have c_32 : M29.2.1 77 7 = (M.2.1 77 7) := (F_n F24 (show ¬ (77 = 77 ∧ (7 = 2 ∨ 7 = 41) ∨ 77 = 99 ∨ 77 = 100) by decide) (F_n F11 (show ¬ (17 ≤ 77 ∧ 77 ≤ 27) by decide) rfl))
  have t_33 : (M29.2.1 77 7).toInt = (M.2.1 77 7).toInt := congrArg Int32.toInt c_32
  have c_34 : M29.2.1 77 6 = (M.2.1 77 6) := (F_n F24 (show ¬ (77 = 77 ∧ (6 = 2 ∨ 6 = 41) ∨ 77 = 99 ∨ 77 = 100) by decide) (F_n F11 (show ¬ (17 ≤ 77 ∧ 77 ≤ 27) by decide) rfl))
  have t_35 : (M29.2.1 77 6).toInt = (M.2.1 77 6).toInt := congrArg Int32.toInt c_34
  have c_36 : M29.2.1 1 1 = (M.2.1 1 1) := (F_n F24 (show ¬ (1 = 77 ∧ (1 = 2 ∨ 1 = 41) ∨ 1 = 99 ∨ 1 = 100) by decide) (F_n F11 (show ¬ (17 ≤ 1 ∧ 1 ≤ 27) by decide) rfl))
  have t_37 : (M29.2.1 1 1).toInt = (M.2.1 1 1).toInt := congrArg Int32.toInt c_36
  have c_38 : M29.2.1 77 1 = (M.2.1 77 1) := (F_n F24 (show ¬ (77 = 77 ∧ (1 = 2 ∨ 1 = 41) ∨ 77 = 99 ∨ 77 = 100) by decide) (F_n F11 (show ¬ (17 ≤ 77 ∧ 77 ≤ 27) by decide) rfl))
  have t_39 : (M29.2.1 77 1).toInt = (M.2.1 77 1).toInt := congrArg Int32.toInt c_38
  have c_40 : M29.2.1 0 12 = (M.2.1 0 12) := (F_n F24 (show ¬ (0 = 77 ∧ (12 = 2 ∨ 12 = 41) ∨ 0 = 99 ∨ 0 = 100) by decide) (F_n F11 (show ¬ (17 ≤ 0 ∧ 0 ≤ 27) by decide) rfl))
  have t_41 : (M29.2.1 0 12).toInt = (M.2.1 0 12).toInt := congrArg Int32.toInt c_40
  have c_42 : M29.2.1 77 28 = (M.2.1 77 28) := (F_n F24 (show ¬ (77 = 77 ∧ (28 = 2 ∨ 28 = 41) ∨ 77 = 99 ∨ 77 = 100) by decide) c_21)
  have t_43 : (M29.2.1 77 28).toInt = (M.2.1 77 28).toInt := congrArg Int32.toInt c_42
  have c_44 : M29.2.1 17 4 = (M18.2.1 17 4) := (F_n F24 (show ¬ (17 = 77 ∧ (4 = 2 ∨ 4 = 41) ∨ 17 = 99 ∨ 17 = 100) by decide) rfl)
  have t_45 : (M29.2.1 17 4).toInt = (M18.2.1 17 4).toInt := congrArg Int32.toInt c_44
  have c_46 : M29.2.1 6 0 = (M.2.1 6 0) := (F_n F24 (show ¬ (6 = 77 ∧ (0 = 2 ∨ 0 = 41) ∨ 6 = 99 ∨ 6 = 100) by decide) (F_n F11 (show ¬ (17 ≤ 6 ∧ 6 ≤ 27) by decide) rfl))
  have t_47 : (M29.2.1 6 0).toInt = (M.2.1 6 0).toInt := congrArg Int32.toInt c_46
  have c_48 : M29.2.1 77 29 = (M.2.1 77 29) := (F_n F24 (show ¬ (77 = 77 ∧ (29 = 2 ∨ 29 = 41) ∨ 77 = 99 ∨ 77 = 100) by decide) (F_n F11 (show ¬ (17 ≤ 77 ∧ 77 ≤ 27) by decide) rfl))
  have t_49 : (M29.2.1 77 29).toInt = (M.2.1 77 29).toInt := congrArg Int32.toInt c_48
  have j_50 := (PI_f (tg_523 F24) p_15)
  have j_51 := (NI_f (tg_524 F24) p_16)
  have j_52 := (QI_f (tg_525 F24) p_17)
  have j_53 := (PQE_r F24.2.1 (PQE_r F11.2.1 jPQE))
  have j_54 := (FA_f (tg_526 F24) (FA_f (tg_527 F11) jFA))
  have j_55 := (WC_f (tg_528 F24) (WC_f (tg_529 F11) jWC))
  have j_56 := (NJ_f (tg_530 F24) (NJ_f (tg_531 F11) jNJ))
  have j_57 := (KQ_f (tg_532 F24) (KQ_f (tg_533 F11) jKQ))
  have j_58 := (TP_f (tg_534 F24) (TP_f (tg_535 F11) jTP))
  have j_59 := (W9_f (tg_536 F24) (W9_f (tg_537 F11) jW9))
  have j_60 := (AN_F F24 tg_608 (AN_F F11 tg_609 jAN))
  have j_61 := (NE_r F24.2.1 (NE_r F11.2.1 jNE))
  have j_62 := (W8_f (tg_538 F24) (W8_f (tg_539 F11) jW8))
  exact h M29 (u5) (u6) ⟨⟨⟨⟨⟨⟨⟨⟨hG25, ⟨j_50, j_51, j_52, j_53⟩, ⟨j_54, j_55, j_56, p_28, j_57⟩, by omega, by omega⟩, j_58, j_59⟩, j_61, by omega⟩, AN_a j_60⟩, by omega⟩, j_62⟩, by omega⟩, j_60⟩ (by omega) (by omega)
set_option maxRecDepth 4000 in
set_option maxHeartbeats 0 in
theorem LW_22 {X : mm_X} {d L : Nat} {M : mm_M} {Q : Option Value → mm_M → Prop} {i : Int32} {u5 u6 : Value} (hX : g_X X) (hW : g_W X) (hW2 : g_W2 X) (hL : (X 0).1 = L) (h3 : L ≤ 3072) (hd : 40 ≤ d) (hi : 0 ≤ i.toInt) (hi2 : i.toInt + 6 ≤ (L : Int)) (H : LI9 M) (h : ∀ (M1 : mm_M) (v5 v6 : Value), LI9 M1 → M1.1.2.1 ≤ M.1.2.1 + 1 → M1.1.2.2.1 ≤ M.1.2.2.1 + 6 → mm_T X d 0 1314 [.ref mm_ext, .ref 0, .ref 77, .ref 125, .int i, v5, v6] [] M1 Q) : mm_T X d 0 970 [.ref mm_ext, .ref 0, .ref 77, .ref 125, .int i, u5, u6] [] M Q := by
  obtain ⟨⟨⟨⟨⟨⟨⟨⟨hG, ⟨jPI, jNI, jQI, jPQE⟩, ⟨jFA, jWC, jNJ, jPS, jKQ⟩, jJ, jE⟩, jTP, jW9⟩, jNE, jCC⟩, -⟩, jOV⟩, jW8⟩, jNN⟩, jAN⟩ := H
  have b_1 := g_b hG (a := 77) (i := 7) (lo := 0) (hi := 500) rfl rfl
  have b_2 := g_b hG (a := 77) (i := 6) (lo := 0) (hi := 500) rfl rfl
  have b_3 := g_b hG (a := 1) (i := 1) (lo := 0) (hi := 500) rfl rfl
  have b_4 := g_b hG (a := 77) (i := 1) (lo := 0) (hi := 500) rfl rfl
  have b_5 := g_b hG (a := 0) (i := 12) (lo := 0) (hi := 30) rfl rfl
  have b_6 := g_b hG (a := 77) (i := 28) (lo := 0) (hi := 30) rfl rfl
  have b_7 := g_b hG (a := 6) (i := 0) (lo := 0) (hi := 150) rfl rfl
  have b_8 := g_b hG (a := 77) (i := 29) (lo := 0) (hi := 150) rfl rfl
  refine to_an (pc := 970) rw_0_970 rfl (to_an (pc := 971) rw_0_971 rfl (to_i (pc := 972) rw_0_972 rfl (to_c (pc := 974) rw_0_974 (x := (1 : Int32)) rfl rfl (s_add (pc := 975) rw_0_975 (A := i.toInt) (B := 1) rfl rfl (by omega) (fun v9 e10 => s_x0 (pc := 976) rw_0_976 hL (A := v9.toInt) rfl (by omega) (by omega) (fun v11 e12 => to_an (pc := 977) rw_0_977 rfl (to_i (pc := 978) rw_0_978 rfl (to_c (pc := 980) rw_0_980 (x := (2 : Int32)) rfl rfl (s_add (pc := 981) rw_0_981 (A := i.toInt) (B := 2) rfl rfl (by omega) (fun v13 e14 => s_x0 (pc := 982) rw_0_982 hL (A := v13.toInt) rfl (by omega) (by omega) (fun v15 e16 => s_v (pc := 983) rw_0_983 (dp0 hd (by decide)) (ls0 := [.ref 0, .int v11, .int v15, .null, .null]) rfl (Nat.le_of_ble_eq_true rfl) (Nat.le_of_ble_eq_true rfl) rfl (to_rc rfl rfl rfl (g_o hG rfl)) rfl ?_)))))))))))
  obtain ⟨pz17, pzz17, qz17, qzz17, hpz17, hpzz17, hqz17, hqzz17, hpqz17⟩ := id jPQE
  refine C_131 hX (dp1 hd (by decide)) hG hpz17 hpzz17 hqz17 hqzz17 hpqz17 jNI jQI (n := v11) (w := v15) (p := pz17) (pz := pzz17) (q := qz17) (qz := qzz17) (fun r18 M21 hG20 F19 => ?_)
  have n_22 : M21.1.2.1 = M.1.2.1 ∧ M21.1.2.2.1 = M.1.2.2.1 := by rw [F19.1]; exact ⟨rfl, rfl⟩
  refine to_popi (pc := 986) rw_0_986 (to_an (pc := 987) rw_0_987 rfl (to_an (pc := 988) rw_0_988 rfl (to_i (pc := 989) rw_0_989 rfl (to_c (pc := 991) rw_0_991 (x := (1 : Int32)) rfl rfl (s_addk (pc := 992) rw_0_992 (A := i.toInt) (B := 1) rfl rfl (by omega) (v := v9) e10 (s_x0k (pc := 993) rw_0_993 hL (A := v9.toInt) rfl (by omega) (by omega) (v := v11) e12 (to_an (pc := 994) rw_0_994 rfl (to_i (pc := 995) rw_0_995 rfl (to_c (pc := 997) rw_0_997 (x := (2 : Int32)) rfl rfl (s_addk (pc := 998) rw_0_998 (A := i.toInt) (B := 2) rfl rfl (by omega) (v := v13) e14 (s_x0k (pc := 999) rw_0_999 hL (A := v13.toInt) rfl (by omega) (by omega) (v := v15) e16 ?_)))))))))))
  refine s_v (pc := 1000) rw_0_1000 (dp0 hd (by decide)) (ls0 := [.ref 77, .int v11, .int v15, .null, .null, .null]) rfl (Nat.le_of_ble_eq_true rfl) (Nat.le_of_ble_eq_true rfl) rfl (to_rc rfl rfl rfl (g_o hG20 rfl)) rfl ?_
  have j_28 := (NJ_f (tg_540 F19) jNJ)
  have j_29 := (KQ_f (tg_541 F19) jKQ)
  refine C_229 hX (dp1 hd (by decide)) hG20 j_28 j_29 (n := v11) (w := v15) (fun r30 M33 hG32 F31 => ?_)
  have n_34 : M33.1.2.1 = M21.1.2.1 ∧ M33.1.2.2.1 = M21.1.2.2.1 := by rw [F31.1]; exact ⟨rfl, rfl⟩
  refine to_popi (pc := 1003) rw_0_1003 (to_go (pc := 1004) rw_0_1004 ?_)
  have c_36 : M33.2.1 77 7 = (M.2.1 77 7) := (F_n F31 (show ¬ (77 = 77 ∧ 7 = 2 ∨ 94 ≤ 77 ∧ 77 ≤ 98 ∨ 77 = 117) by decide) (F_n F19 (show ¬ (11 ≤ 77 ∧ 77 ≤ 16 ∨ 77 = 71 ∨ 77 = 76) by decide) rfl))
  have t_37 : (M33.2.1 77 7).toInt = (M.2.1 77 7).toInt := congrArg Int32.toInt c_36
  have c_38 : M33.2.1 77 6 = (M.2.1 77 6) := (F_n F31 (show ¬ (77 = 77 ∧ 6 = 2 ∨ 94 ≤ 77 ∧ 77 ≤ 98 ∨ 77 = 117) by decide) (F_n F19 (show ¬ (11 ≤ 77 ∧ 77 ≤ 16 ∨ 77 = 71 ∨ 77 = 76) by decide) rfl))
  have t_39 : (M33.2.1 77 6).toInt = (M.2.1 77 6).toInt := congrArg Int32.toInt c_38
  have c_40 : M33.2.1 1 1 = (M.2.1 1 1) := (F_n F31 (show ¬ (1 = 77 ∧ 1 = 2 ∨ 94 ≤ 1 ∧ 1 ≤ 98 ∨ 1 = 117) by decide) (F_n F19 (show ¬ (11 ≤ 1 ∧ 1 ≤ 16 ∨ 1 = 71 ∨ 1 = 76) by decide) rfl))
  have t_41 : (M33.2.1 1 1).toInt = (M.2.1 1 1).toInt := congrArg Int32.toInt c_40
  have c_42 : M33.2.1 77 1 = (M.2.1 77 1) := (F_n F31 (show ¬ (77 = 77 ∧ 1 = 2 ∨ 94 ≤ 77 ∧ 77 ≤ 98 ∨ 77 = 117) by decide) (F_n F19 (show ¬ (11 ≤ 77 ∧ 77 ≤ 16 ∨ 77 = 71 ∨ 77 = 76) by decide) rfl))
  have t_43 : (M33.2.1 77 1).toInt = (M.2.1 77 1).toInt := congrArg Int32.toInt c_42
  have c_44 : M33.2.1 0 12 = (M.2.1 0 12) := (F_n F31 (show ¬ (0 = 77 ∧ 12 = 2 ∨ 94 ≤ 0 ∧ 0 ≤ 98 ∨ 0 = 117) by decide) (F_n F19 (show ¬ (11 ≤ 0 ∧ 0 ≤ 16 ∨ 0 = 71 ∨ 0 = 76) by decide) rfl))
  have t_45 : (M33.2.1 0 12).toInt = (M.2.1 0 12).toInt := congrArg Int32.toInt c_44
  have c_46 : M33.2.1 77 28 = (M.2.1 77 28) := (F_n F31 (show ¬ (77 = 77 ∧ 28 = 2 ∨ 94 ≤ 77 ∧ 77 ≤ 98 ∨ 77 = 117) by decide) (F_n F19 (show ¬ (11 ≤ 77 ∧ 77 ≤ 16 ∨ 77 = 71 ∨ 77 = 76) by decide) rfl))
  have t_47 : (M33.2.1 77 28).toInt = (M.2.1 77 28).toInt := congrArg Int32.toInt c_46
  have c_48 : M33.2.1 17 4 = (M.2.1 17 4) := (F_n F31 (show ¬ (17 = 77 ∧ 4 = 2 ∨ 94 ≤ 17 ∧ 17 ≤ 98 ∨ 17 = 117) by decide) (F_n F19 (show ¬ (11 ≤ 17 ∧ 17 ≤ 16 ∨ 17 = 71 ∨ 17 = 76) by decide) rfl))
  have t_49 : (M33.2.1 17 4).toInt = (M.2.1 17 4).toInt := congrArg Int32.toInt c_48
  have c_50 : M33.2.1 77 41 = (M.2.1 77 41) := (F_n F31 (show ¬ (77 = 77 ∧ 41 = 2 ∨ 94 ≤ 77 ∧ 77 ≤ 98 ∨ 77 = 117) by decide) (F_n F19 (show ¬ (11 ≤ 77 ∧ 77 ≤ 16 ∨ 77 = 71 ∨ 77 = 76) by decide) rfl))
  have t_51 : (M33.2.1 77 41).toInt = (M.2.1 77 41).toInt := congrArg Int32.toInt c_50
  have c_52 : M33.2.1 6 0 = (M.2.1 6 0) := (F_n F31 (show ¬ (6 = 77 ∧ 0 = 2 ∨ 94 ≤ 6 ∧ 6 ≤ 98 ∨ 6 = 117) by decide) (F_n F19 (show ¬ (11 ≤ 6 ∧ 6 ≤ 16 ∨ 6 = 71 ∨ 6 = 76) by decide) rfl))
  have t_53 : (M33.2.1 6 0).toInt = (M.2.1 6 0).toInt := congrArg Int32.toInt c_52
  have c_54 : M33.2.1 77 29 = (M.2.1 77 29) := (F_n F31 (show ¬ (77 = 77 ∧ 29 = 2 ∨ 94 ≤ 77 ∧ 77 ≤ 98 ∨ 77 = 117) by decide) (F_n F19 (show ¬ (11 ≤ 77 ∧ 77 ≤ 16 ∨ 77 = 71 ∨ 77 = 76) by decide) rfl))
  have t_55 : (M33.2.1 77 29).toInt = (M.2.1 77 29).toInt := congrArg Int32.toInt c_54
  have j_56 := (PI_f (tg_542 F31) (PI_f (tg_543 F19) jPI))
  have j_57 := (NI_f (tg_544 F31) (NI_f (tg_545 F19) jNI))
  have j_58 := (QI_f (tg_546 F31) (QI_f (tg_547 F19) jQI))
  have j_59 := (PQE_r F31.2.1 (PQE_r F19.2.1 jPQE))
  have j_60 := (FA_f (tg_548 F31) (FA_f (tg_549 F19) jFA))
  have j_61 := (WC_f (tg_550 F31) (WC_f (tg_551 F19) jWC))
  have j_62 := (NJ_f (tg_552 F31) j_28)
  have j_63 := (PS_f (tg_553 F31) (PS_f (tg_554 F19) jPS))
  have j_64 := (KQ_f (tg_555 F31) j_29)
  have j_65 := (TP_f (tg_556 F31) (TP_f (tg_557 F19) jTP))
  have j_66 := (W9_f (tg_558 F31) (W9_f (tg_559 F19) jW9))
  have j_67 := (AN_F F31 tg_610 (AN_F F19 tg_611 jAN))
  have j_68 := (NE_r F31.2.1 (NE_r F19.2.1 jNE))
  have j_69 := (W8_f (tg_560 F31) (W8_f (tg_561 F19) jW8))
  exact h M33 (u5) (u6) ⟨⟨⟨⟨⟨⟨⟨⟨hG32, ⟨j_56, j_57, j_58, j_59⟩, ⟨j_60, j_61, j_62, j_63, j_64⟩, by omega, by omega⟩, j_65, j_66⟩, j_68, by omega⟩, AN_a j_67⟩, by omega⟩, j_69⟩, by omega⟩, j_67⟩ (by omega) (by omega)
set_option maxRecDepth 4000 in
set_option maxHeartbeats 0 in
theorem LW_23 {X : mm_X} {d L : Nat} {M : mm_M} {Q : Option Value → mm_M → Prop} {i : Int32} {u5 u6 : Value} (hX : g_X X) (hW : g_W X) (hW2 : g_W2 X) (hL : (X 0).1 = L) (h3 : L ≤ 3072) (hd : 40 ≤ d) (hi : 0 ≤ i.toInt) (hi2 : i.toInt + 6 ≤ (L : Int)) (H : LI9 M) (h : ∀ (M1 : mm_M) (v5 v6 : Value), LI9 M1 → M1.1.2.1 ≤ M.1.2.1 + 1 → M1.1.2.2.1 ≤ M.1.2.2.1 + 6 → mm_T X d 0 1314 [.ref mm_ext, .ref 0, .ref 77, .ref 125, .int i, v5, v6] [] M1 Q) : mm_T X d 0 1007 [.ref mm_ext, .ref 0, .ref 77, .ref 125, .int i, u5, u6] [] M Q := by
  obtain ⟨⟨⟨⟨⟨⟨⟨⟨hG, ⟨jPI, jNI, jQI, jPQE⟩, ⟨jFA, jWC, jNJ, jPS, jKQ⟩, jJ, jE⟩, jTP, jW9⟩, jNE, jCC⟩, -⟩, jOV⟩, jW8⟩, jNN⟩, jAN⟩ := H
  have b_1 := g_b hG (a := 77) (i := 7) (lo := 0) (hi := 500) rfl rfl
  have b_2 := g_b hG (a := 77) (i := 6) (lo := 0) (hi := 500) rfl rfl
  have b_3 := g_b hG (a := 1) (i := 1) (lo := 0) (hi := 500) rfl rfl
  have b_4 := g_b hG (a := 77) (i := 1) (lo := 0) (hi := 500) rfl rfl
  have b_5 := g_b hG (a := 0) (i := 12) (lo := 0) (hi := 30) rfl rfl
  have b_6 := g_b hG (a := 77) (i := 28) (lo := 0) (hi := 30) rfl rfl
  have b_7 := g_b hG (a := 6) (i := 0) (lo := 0) (hi := 150) rfl rfl
  have b_8 := g_b hG (a := 77) (i := 29) (lo := 0) (hi := 150) rfl rfl
  refine to_an (pc := 1007) rw_0_1007 rfl (to_an (pc := 1008) rw_0_1008 rfl (to_i (pc := 1009) rw_0_1009 rfl (to_c (pc := 1011) rw_0_1011 (x := (1 : Int32)) rfl rfl (s_add (pc := 1012) rw_0_1012 (A := i.toInt) (B := 1) rfl rfl (by omega) (fun v9 e10 => s_x0 (pc := 1013) rw_0_1013 hL (A := v9.toInt) rfl (by omega) (by omega) (fun v11 e12 => to_an (pc := 1014) rw_0_1014 rfl (to_i (pc := 1015) rw_0_1015 rfl (to_c (pc := 1017) rw_0_1017 (x := (2 : Int32)) rfl rfl (s_add (pc := 1018) rw_0_1018 (A := i.toInt) (B := 2) rfl rfl (by omega) (fun v13 e14 => s_x0 (pc := 1019) rw_0_1019 hL (A := v13.toInt) rfl (by omega) (by omega) (fun v15 e16 => to_an (pc := 1020) rw_0_1020 rfl ?_)))))))))))
  refine to_i (pc := 1021) rw_0_1021 rfl (to_c (pc := 1023) rw_0_1023 (x := (3 : Int32)) rfl rfl (s_add (pc := 1024) rw_0_1024 (A := i.toInt) (B := 3) rfl rfl (by omega) (fun v17 e18 => s_x0 (pc := 1025) rw_0_1025 hL (A := v17.toInt) rfl (by omega) (by omega) (fun v19 e20 => s_v (pc := 1026) rw_0_1026 (dp0 hd (by decide)) (ls0 := [.ref 0, .int v11, .int v15, .int v19, .null, .null, .null, .null, .null]) rfl (Nat.le_of_ble_eq_true rfl) (Nat.le_of_ble_eq_true rfl) rfl (to_rc rfl rfl rfl (g_o hG rfl)) rfl ?_))))
  obtain ⟨pz21, pzz21, qz21, qzz21, hpz21, hpzz21, hqz21, hqzz21, hpqz21⟩ := id jPQE
  refine C_132 hX (dp1 hd (by decide)) hG hpz21 hpzz21 hqz21 hqzz21 hpqz21 jNI jPI jQI (n := v11) (w := v15) (k := v19) (p := pz21) (pz := pzz21) (q := qz21) (qz := qzz21) (fun r22 M28 hG24 F23 p_25 p_26 p_27 => ?_)
  have n_29 : M28.1.2.1 = M.1.2.1 ∧ M28.1.2.2.1 = M.1.2.2.1 := by rw [F23.1]; exact ⟨rfl, rfl⟩
  refine s_pop2 (pc := 1029) rw_0_1029 (to_an (pc := 1030) rw_0_1030 rfl (to_an (pc := 1031) rw_0_1031 rfl (to_i (pc := 1032) rw_0_1032 rfl (to_c (pc := 1034) rw_0_1034 (x := (1 : Int32)) rfl rfl (s_addk (pc := 1035) rw_0_1035 (A := i.toInt) (B := 1) rfl rfl (by omega) (v := v9) e10 (s_x0k (pc := 1036) rw_0_1036 hL (A := v9.toInt) rfl (by omega) (by omega) (v := v11) e12 (to_an (pc := 1037) rw_0_1037 rfl (to_i (pc := 1038) rw_0_1038 rfl (to_c (pc := 1040) rw_0_1040 (x := (2 : Int32)) rfl rfl (s_addk (pc := 1041) rw_0_1041 (A := i.toInt) (B := 2) rfl rfl (by omega) (v := v13) e14 (s_x0k (pc := 1042) rw_0_1042 hL (A := v13.toInt) rfl (by omega) (by omega) (v := v15) e16 ?_)))))))))))
  refine to_an (pc := 1043) rw_0_1043 rfl (to_i (pc := 1044) rw_0_1044 rfl (to_c (pc := 1046) rw_0_1046 (x := (3 : Int32)) rfl rfl (s_addk (pc := 1047) rw_0_1047 (A := i.toInt) (B := 3) rfl rfl (by omega) (v := v17) e18 (s_x0k (pc := 1048) rw_0_1048 hL (A := v17.toInt) rfl (by omega) (by omega) (v := v19) e20 (s_v (pc := 1049) rw_0_1049 (dp0 hd (by decide)) (ls0 := [.ref 77, .int v11, .int v15, .int v19, .null, .null, .null, .null]) rfl (Nat.le_of_ble_eq_true rfl) (Nat.le_of_ble_eq_true rfl) rfl (to_rc rfl rfl rfl (g_o hG24 rfl)) rfl ?_)))))
  have j_37 := (NJ_f (tg_438 F23) jNJ)
  refine C_233 hX (dp1 hd (by decide)) hG24 j_37 (n := v11) (w := v15) (k := v19) (fun r38 M41 hG40 F39 => ?_)
  have n_42 : M41.1.2.1 = M28.1.2.1 ∧ M41.1.2.2.1 = M28.1.2.2.1 := by rw [F39.1]; exact ⟨rfl, rfl⟩
  refine s_pop2 (pc := 1052) rw_0_1052 (to_go (pc := 1053) rw_0_1053 ?_)
  have c_44 : M41.2.1 77 7 = (M.2.1 77 7) := (F_n F39 (show ¬ (77 = 77 ∧ 7 = 2 ∨ 94 ≤ 77 ∧ 77 ≤ 98) by decide) (F_n F23 (show ¬ (11 ≤ 77 ∧ 77 ≤ 16 ∨ 18 ≤ 77 ∧ 77 ≤ 48 ∨ 67 ≤ 77 ∧ 77 ≤ 76) by decide) rfl))
  have t_45 : (M41.2.1 77 7).toInt = (M.2.1 77 7).toInt := congrArg Int32.toInt c_44
  have c_46 : M41.2.1 77 6 = (M.2.1 77 6) := (F_n F39 (show ¬ (77 = 77 ∧ 6 = 2 ∨ 94 ≤ 77 ∧ 77 ≤ 98) by decide) (F_n F23 (show ¬ (11 ≤ 77 ∧ 77 ≤ 16 ∨ 18 ≤ 77 ∧ 77 ≤ 48 ∨ 67 ≤ 77 ∧ 77 ≤ 76) by decide) rfl))
  have t_47 : (M41.2.1 77 6).toInt = (M.2.1 77 6).toInt := congrArg Int32.toInt c_46
  have c_48 : M41.2.1 1 1 = (M.2.1 1 1) := (F_n F39 (show ¬ (1 = 77 ∧ 1 = 2 ∨ 94 ≤ 1 ∧ 1 ≤ 98) by decide) (F_n F23 (show ¬ (11 ≤ 1 ∧ 1 ≤ 16 ∨ 18 ≤ 1 ∧ 1 ≤ 48 ∨ 67 ≤ 1 ∧ 1 ≤ 76) by decide) rfl))
  have t_49 : (M41.2.1 1 1).toInt = (M.2.1 1 1).toInt := congrArg Int32.toInt c_48
  have c_50 : M41.2.1 77 1 = (M.2.1 77 1) := (F_n F39 (show ¬ (77 = 77 ∧ 1 = 2 ∨ 94 ≤ 77 ∧ 77 ≤ 98) by decide) (F_n F23 (show ¬ (11 ≤ 77 ∧ 77 ≤ 16 ∨ 18 ≤ 77 ∧ 77 ≤ 48 ∨ 67 ≤ 77 ∧ 77 ≤ 76) by decide) rfl))
  have t_51 : (M41.2.1 77 1).toInt = (M.2.1 77 1).toInt := congrArg Int32.toInt c_50
  have c_52 : M41.2.1 0 12 = (M.2.1 0 12) := (F_n F39 (show ¬ (0 = 77 ∧ 12 = 2 ∨ 94 ≤ 0 ∧ 0 ≤ 98) by decide) (F_n F23 (show ¬ (11 ≤ 0 ∧ 0 ≤ 16 ∨ 18 ≤ 0 ∧ 0 ≤ 48 ∨ 67 ≤ 0 ∧ 0 ≤ 76) by decide) rfl))
  have t_53 : (M41.2.1 0 12).toInt = (M.2.1 0 12).toInt := congrArg Int32.toInt c_52
  have c_54 : M41.2.1 77 28 = (M.2.1 77 28) := (F_n F39 (show ¬ (77 = 77 ∧ 28 = 2 ∨ 94 ≤ 77 ∧ 77 ≤ 98) by decide) (F_n F23 (show ¬ (11 ≤ 77 ∧ 77 ≤ 16 ∨ 18 ≤ 77 ∧ 77 ≤ 48 ∨ 67 ≤ 77 ∧ 77 ≤ 76) by decide) rfl))
  have t_55 : (M41.2.1 77 28).toInt = (M.2.1 77 28).toInt := congrArg Int32.toInt c_54
  have c_56 : M41.2.1 17 4 = (M.2.1 17 4) := (F_n F39 (show ¬ (17 = 77 ∧ 4 = 2 ∨ 94 ≤ 17 ∧ 17 ≤ 98) by decide) (F_n F23 (show ¬ (11 ≤ 17 ∧ 17 ≤ 16 ∨ 18 ≤ 17 ∧ 17 ≤ 48 ∨ 67 ≤ 17 ∧ 17 ≤ 76) by decide) rfl))
  have t_57 : (M41.2.1 17 4).toInt = (M.2.1 17 4).toInt := congrArg Int32.toInt c_56
  have c_58 : M41.2.1 77 41 = (M.2.1 77 41) := (F_n F39 (show ¬ (77 = 77 ∧ 41 = 2 ∨ 94 ≤ 77 ∧ 77 ≤ 98) by decide) (F_n F23 (show ¬ (11 ≤ 77 ∧ 77 ≤ 16 ∨ 18 ≤ 77 ∧ 77 ≤ 48 ∨ 67 ≤ 77 ∧ 77 ≤ 76) by decide) rfl))
  have t_59 : (M41.2.1 77 41).toInt = (M.2.1 77 41).toInt := congrArg Int32.toInt c_58
  have c_60 : M41.2.1 6 0 = (M.2.1 6 0) := (F_n F39 (show ¬ (6 = 77 ∧ 0 = 2 ∨ 94 ≤ 6 ∧ 6 ≤ 98) by decide) (F_n F23 (show ¬ (11 ≤ 6 ∧ 6 ≤ 16 ∨ 18 ≤ 6 ∧ 6 ≤ 48 ∨ 67 ≤ 6 ∧ 6 ≤ 76) by decide) rfl))
  have t_61 : (M41.2.1 6 0).toInt = (M.2.1 6 0).toInt := congrArg Int32.toInt c_60
  have c_62 : M41.2.1 77 29 = (M.2.1 77 29) := (F_n F39 (show ¬ (77 = 77 ∧ 29 = 2 ∨ 94 ≤ 77 ∧ 77 ≤ 98) by decide) (F_n F23 (show ¬ (11 ≤ 77 ∧ 77 ≤ 16 ∨ 18 ≤ 77 ∧ 77 ≤ 48 ∨ 67 ≤ 77 ∧ 77 ≤ 76) by decide) rfl))
  have t_63 : (M41.2.1 77 29).toInt = (M.2.1 77 29).toInt := congrArg Int32.toInt c_62
  have j_64 := (PI_f (tg_439 F39) p_25)
  have j_65 := (NI_f (tg_440 F39) p_26)
  have j_66 := (QI_f (tg_441 F39) p_27)
  have j_67 := (PQE_r F39.2.1 (PQE_r F23.2.1 jPQE))
  have j_68 := (FA_f (tg_442 F39) (FA_f (tg_443 F23) jFA))
  have j_69 := (WC_f (tg_444 F39) (WC_f (tg_445 F23) jWC))
  have j_70 := (NJ_f (tg_446 F39) j_37)
  have j_71 := (PS_f (tg_447 F39) (PS_f (tg_448 F23) jPS))
  have j_72 := (KQ_f (tg_449 F39) (KQ_f (tg_450 F23) jKQ))
  have j_73 := (TP_f (tg_451 F39) (TP_f (tg_452 F23) jTP))
  have j_74 := (W9_f (tg_453 F39) (W9_f (tg_454 F23) jW9))
  have j_75 := (AN_F F39 tg_501 (AN_F F23 tg_502 jAN))
  have j_76 := (NE_r F39.2.1 (NE_r F23.2.1 jNE))
  have j_77 := (W8_f (tg_455 F39) (W8_f (tg_456 F23) jW8))
  exact h M41 (u5) (u6) ⟨⟨⟨⟨⟨⟨⟨⟨hG40, ⟨j_64, j_65, j_66, j_67⟩, ⟨j_68, j_69, j_70, j_71, j_72⟩, by omega, by omega⟩, j_73, j_74⟩, j_76, by omega⟩, AN_a j_75⟩, by omega⟩, j_77⟩, by omega⟩, j_75⟩ (by omega) (by omega)
set_option maxRecDepth 4000 in
set_option maxHeartbeats 0 in
theorem LW_24 {X : mm_X} {d L : Nat} {M : mm_M} {Q : Option Value → mm_M → Prop} {i : Int32} {u5 u6 : Value} (hX : g_X X) (hW : g_W X) (hW2 : g_W2 X) (hL : (X 0).1 = L) (h3 : L ≤ 3072) (hd : 40 ≤ d) (hi : 0 ≤ i.toInt) (hi2 : i.toInt + 6 ≤ (L : Int)) (H : LI9 M) (h : ∀ (M1 : mm_M) (v5 v6 : Value), LI9 M1 → M1.1.2.1 ≤ M.1.2.1 + 1 → M1.1.2.2.1 ≤ M.1.2.2.1 + 6 → mm_T X d 0 1314 [.ref mm_ext, .ref 0, .ref 77, .ref 125, .int i, v5, v6] [] M1 Q) : mm_T X d 0 1056 [.ref mm_ext, .ref 0, .ref 77, .ref 125, .int i, u5, u6] [] M Q := by
  obtain ⟨⟨⟨⟨⟨⟨⟨⟨hG, ⟨jPI, jNI, jQI, jPQE⟩, ⟨jFA, jWC, jNJ, jPS, jKQ⟩, jJ, jE⟩, jTP, jW9⟩, jNE, jCC⟩, -⟩, jOV⟩, jW8⟩, jNN⟩, jAN⟩ := H
  have b_1 := g_b hG (a := 77) (i := 7) (lo := 0) (hi := 500) rfl rfl
  have b_2 := g_b hG (a := 77) (i := 6) (lo := 0) (hi := 500) rfl rfl
  have b_3 := g_b hG (a := 1) (i := 1) (lo := 0) (hi := 500) rfl rfl
  have b_4 := g_b hG (a := 77) (i := 1) (lo := 0) (hi := 500) rfl rfl
  have b_5 := g_b hG (a := 0) (i := 12) (lo := 0) (hi := 30) rfl rfl
  have b_6 := g_b hG (a := 77) (i := 28) (lo := 0) (hi := 30) rfl rfl
  have b_7 := g_b hG (a := 6) (i := 0) (lo := 0) (hi := 150) rfl rfl
  have b_8 := g_b hG (a := 77) (i := 29) (lo := 0) (hi := 150) rfl rfl
  refine to_an (pc := 1056) rw_0_1056 rfl (to_an (pc := 1057) rw_0_1057 rfl (to_i (pc := 1058) rw_0_1058 rfl (to_c (pc := 1060) rw_0_1060 (x := (1 : Int32)) rfl rfl (s_add (pc := 1061) rw_0_1061 (A := i.toInt) (B := 1) rfl rfl (by omega) (fun v9 e10 => s_x0 (pc := 1062) rw_0_1062 hL (A := v9.toInt) rfl (by omega) (by omega) (fun v11 e12 => to_an (pc := 1063) rw_0_1063 rfl (to_i (pc := 1064) rw_0_1064 rfl (to_c (pc := 1066) rw_0_1066 (x := (2 : Int32)) rfl rfl (s_add (pc := 1067) rw_0_1067 (A := i.toInt) (B := 2) rfl rfl (by omega) (fun v13 e14 => s_x0 (pc := 1068) rw_0_1068 hL (A := v13.toInt) rfl (by omega) (by omega) (fun v15 e16 => s_v (pc := 1069) rw_0_1069 (dp0 hd (by decide)) (ls0 := [.ref 0, .int v11, .int v15, .null, .null]) rfl (Nat.le_of_ble_eq_true rfl) (Nat.le_of_ble_eq_true rfl) rfl (to_rc rfl rfl rfl (g_o hG rfl)) rfl ?_)))))))))))
  obtain ⟨pz17, pzz17, qz17, qzz17, hpz17, hpzz17, hqz17, hqzz17, hpqz17⟩ := id jPQE
  refine C_133 hX (dp1 hd (by decide)) hG hpz17 hpzz17 hqz17 hqzz17 hpqz17 jNI jPI jQI (n := v11) (w := v15) (p := pz17) (pz := pzz17) (q := qz17) (qz := qzz17) (fun r18 M24 hG20 F19 p_21 p_22 p_23 => ?_)
  have n_25 : M24.1.2.1 = M.1.2.1 ∧ M24.1.2.2.1 = M.1.2.2.1 := by rw [F19.1]; exact ⟨rfl, rfl⟩
  refine to_popi (pc := 1072) rw_0_1072 (to_an (pc := 1073) rw_0_1073 rfl (to_an (pc := 1074) rw_0_1074 rfl (to_i (pc := 1075) rw_0_1075 rfl (to_c (pc := 1077) rw_0_1077 (x := (1 : Int32)) rfl rfl (s_addk (pc := 1078) rw_0_1078 (A := i.toInt) (B := 1) rfl rfl (by omega) (v := v9) e10 (s_x0k (pc := 1079) rw_0_1079 hL (A := v9.toInt) rfl (by omega) (by omega) (v := v11) e12 (to_an (pc := 1080) rw_0_1080 rfl (to_i (pc := 1081) rw_0_1081 rfl (to_c (pc := 1083) rw_0_1083 (x := (2 : Int32)) rfl rfl (s_addk (pc := 1084) rw_0_1084 (A := i.toInt) (B := 2) rfl rfl (by omega) (v := v13) e14 (s_x0k (pc := 1085) rw_0_1085 hL (A := v13.toInt) rfl (by omega) (by omega) (v := v15) e16 ?_)))))))))))
  refine s_v (pc := 1086) rw_0_1086 (dp0 hd (by decide)) (ls0 := [.ref 77, .int v11, .int v15]) rfl (Nat.le_of_ble_eq_true rfl) (Nat.le_of_ble_eq_true rfl) rfl (to_rc rfl rfl rfl (g_o hG20 rfl)) rfl ?_
  have j_31 := (NJ_f (tg_438 F19) jNJ)
  refine C_235 hX (dp1 hd (by decide)) hG20 j_31 (n := v11) (w := v15) (fun r32 M35 hG34 F33 => ?_)
  have n_36 : M35.1.2.1 = M24.1.2.1 ∧ M35.1.2.2.1 = M24.1.2.2.1 := by rw [F33.1]; exact ⟨rfl, rfl⟩
  refine to_popi (pc := 1089) rw_0_1089 (to_go (pc := 1090) rw_0_1090 ?_)
  have c_38 : M35.2.1 77 7 = (M.2.1 77 7) := (F_n F33 (show ¬ (77 = 77 ∧ 7 = 2 ∨ 94 ≤ 77 ∧ 77 ≤ 98) by decide) (F_n F19 (show ¬ (11 ≤ 77 ∧ 77 ≤ 16 ∨ 18 ≤ 77 ∧ 77 ≤ 48 ∨ 67 ≤ 77 ∧ 77 ≤ 76) by decide) rfl))
  have t_39 : (M35.2.1 77 7).toInt = (M.2.1 77 7).toInt := congrArg Int32.toInt c_38
  have c_40 : M35.2.1 77 6 = (M.2.1 77 6) := (F_n F33 (show ¬ (77 = 77 ∧ 6 = 2 ∨ 94 ≤ 77 ∧ 77 ≤ 98) by decide) (F_n F19 (show ¬ (11 ≤ 77 ∧ 77 ≤ 16 ∨ 18 ≤ 77 ∧ 77 ≤ 48 ∨ 67 ≤ 77 ∧ 77 ≤ 76) by decide) rfl))
  have t_41 : (M35.2.1 77 6).toInt = (M.2.1 77 6).toInt := congrArg Int32.toInt c_40
  have c_42 : M35.2.1 1 1 = (M.2.1 1 1) := (F_n F33 (show ¬ (1 = 77 ∧ 1 = 2 ∨ 94 ≤ 1 ∧ 1 ≤ 98) by decide) (F_n F19 (show ¬ (11 ≤ 1 ∧ 1 ≤ 16 ∨ 18 ≤ 1 ∧ 1 ≤ 48 ∨ 67 ≤ 1 ∧ 1 ≤ 76) by decide) rfl))
  have t_43 : (M35.2.1 1 1).toInt = (M.2.1 1 1).toInt := congrArg Int32.toInt c_42
  have c_44 : M35.2.1 77 1 = (M.2.1 77 1) := (F_n F33 (show ¬ (77 = 77 ∧ 1 = 2 ∨ 94 ≤ 77 ∧ 77 ≤ 98) by decide) (F_n F19 (show ¬ (11 ≤ 77 ∧ 77 ≤ 16 ∨ 18 ≤ 77 ∧ 77 ≤ 48 ∨ 67 ≤ 77 ∧ 77 ≤ 76) by decide) rfl))
  have t_45 : (M35.2.1 77 1).toInt = (M.2.1 77 1).toInt := congrArg Int32.toInt c_44
  have c_46 : M35.2.1 0 12 = (M.2.1 0 12) := (F_n F33 (show ¬ (0 = 77 ∧ 12 = 2 ∨ 94 ≤ 0 ∧ 0 ≤ 98) by decide) (F_n F19 (show ¬ (11 ≤ 0 ∧ 0 ≤ 16 ∨ 18 ≤ 0 ∧ 0 ≤ 48 ∨ 67 ≤ 0 ∧ 0 ≤ 76) by decide) rfl))
  have t_47 : (M35.2.1 0 12).toInt = (M.2.1 0 12).toInt := congrArg Int32.toInt c_46
  have c_48 : M35.2.1 77 28 = (M.2.1 77 28) := (F_n F33 (show ¬ (77 = 77 ∧ 28 = 2 ∨ 94 ≤ 77 ∧ 77 ≤ 98) by decide) (F_n F19 (show ¬ (11 ≤ 77 ∧ 77 ≤ 16 ∨ 18 ≤ 77 ∧ 77 ≤ 48 ∨ 67 ≤ 77 ∧ 77 ≤ 76) by decide) rfl))
  have t_49 : (M35.2.1 77 28).toInt = (M.2.1 77 28).toInt := congrArg Int32.toInt c_48
  have c_50 : M35.2.1 17 4 = (M.2.1 17 4) := (F_n F33 (show ¬ (17 = 77 ∧ 4 = 2 ∨ 94 ≤ 17 ∧ 17 ≤ 98) by decide) (F_n F19 (show ¬ (11 ≤ 17 ∧ 17 ≤ 16 ∨ 18 ≤ 17 ∧ 17 ≤ 48 ∨ 67 ≤ 17 ∧ 17 ≤ 76) by decide) rfl))
  have t_51 : (M35.2.1 17 4).toInt = (M.2.1 17 4).toInt := congrArg Int32.toInt c_50
  have c_52 : M35.2.1 77 41 = (M.2.1 77 41) := (F_n F33 (show ¬ (77 = 77 ∧ 41 = 2 ∨ 94 ≤ 77 ∧ 77 ≤ 98) by decide) (F_n F19 (show ¬ (11 ≤ 77 ∧ 77 ≤ 16 ∨ 18 ≤ 77 ∧ 77 ≤ 48 ∨ 67 ≤ 77 ∧ 77 ≤ 76) by decide) rfl))
  have t_53 : (M35.2.1 77 41).toInt = (M.2.1 77 41).toInt := congrArg Int32.toInt c_52
  have c_54 : M35.2.1 6 0 = (M.2.1 6 0) := (F_n F33 (show ¬ (6 = 77 ∧ 0 = 2 ∨ 94 ≤ 6 ∧ 6 ≤ 98) by decide) (F_n F19 (show ¬ (11 ≤ 6 ∧ 6 ≤ 16 ∨ 18 ≤ 6 ∧ 6 ≤ 48 ∨ 67 ≤ 6 ∧ 6 ≤ 76) by decide) rfl))
  have t_55 : (M35.2.1 6 0).toInt = (M.2.1 6 0).toInt := congrArg Int32.toInt c_54
  have c_56 : M35.2.1 77 29 = (M.2.1 77 29) := (F_n F33 (show ¬ (77 = 77 ∧ 29 = 2 ∨ 94 ≤ 77 ∧ 77 ≤ 98) by decide) (F_n F19 (show ¬ (11 ≤ 77 ∧ 77 ≤ 16 ∨ 18 ≤ 77 ∧ 77 ≤ 48 ∨ 67 ≤ 77 ∧ 77 ≤ 76) by decide) rfl))
  have t_57 : (M35.2.1 77 29).toInt = (M.2.1 77 29).toInt := congrArg Int32.toInt c_56
  have j_58 := (PI_f (tg_439 F33) p_21)
  have j_59 := (NI_f (tg_440 F33) p_22)
  have j_60 := (QI_f (tg_441 F33) p_23)
  have j_61 := (PQE_r F33.2.1 (PQE_r F19.2.1 jPQE))
  have j_62 := (FA_f (tg_442 F33) (FA_f (tg_443 F19) jFA))
  have j_63 := (WC_f (tg_444 F33) (WC_f (tg_445 F19) jWC))
  have j_64 := (NJ_f (tg_446 F33) j_31)
  have j_65 := (PS_f (tg_447 F33) (PS_f (tg_448 F19) jPS))
  have j_66 := (KQ_f (tg_449 F33) (KQ_f (tg_450 F19) jKQ))
  have j_67 := (TP_f (tg_451 F33) (TP_f (tg_452 F19) jTP))
  have j_68 := (W9_f (tg_453 F33) (W9_f (tg_454 F19) jW9))
  have j_69 := (AN_F F33 tg_501 (AN_F F19 tg_502 jAN))
  have j_70 := (NE_r F33.2.1 (NE_r F19.2.1 jNE))
  have j_71 := (W8_f (tg_455 F33) (W8_f (tg_456 F19) jW8))
  exact h M35 (u5) (u6) ⟨⟨⟨⟨⟨⟨⟨⟨hG34, ⟨j_58, j_59, j_60, j_61⟩, ⟨j_62, j_63, j_64, j_65, j_66⟩, by omega, by omega⟩, j_67, j_68⟩, j_70, by omega⟩, AN_a j_69⟩, by omega⟩, j_71⟩, by omega⟩, j_69⟩ (by omega) (by omega)
set_option maxRecDepth 4000 in
set_option maxHeartbeats 0 in
theorem LW_25 {X : mm_X} {d L : Nat} {M : mm_M} {Q : Option Value → mm_M → Prop} {i : Int32} {u5 u6 : Value} (hX : g_X X) (hW : g_W X) (hW2 : g_W2 X) (hL : (X 0).1 = L) (h3 : L ≤ 3072) (hd : 40 ≤ d) (hi : 0 ≤ i.toInt) (hi2 : i.toInt + 6 ≤ (L : Int)) (H : LI9 M) (h : ∀ (M1 : mm_M) (v5 v6 : Value), LI9 M1 → M1.1.2.1 ≤ M.1.2.1 + 1 → M1.1.2.2.1 ≤ M.1.2.2.1 + 6 → mm_T X d 0 1314 [.ref mm_ext, .ref 0, .ref 77, .ref 125, .int i, v5, v6] [] M1 Q) : mm_T X d 0 1093 [.ref mm_ext, .ref 0, .ref 77, .ref 125, .int i, u5, u6] [] M Q := by
  obtain ⟨⟨⟨⟨⟨⟨⟨⟨hG, ⟨jPI, jNI, jQI, jPQE⟩, ⟨jFA, jWC, jNJ, jPS, jKQ⟩, jJ, jE⟩, jTP, jW9⟩, jNE, jCC⟩, -⟩, jOV⟩, jW8⟩, jNN⟩, jAN⟩ := H
  have b_1 := g_b hG (a := 77) (i := 7) (lo := 0) (hi := 500) rfl rfl
  have b_2 := g_b hG (a := 77) (i := 6) (lo := 0) (hi := 500) rfl rfl
  have b_3 := g_b hG (a := 1) (i := 1) (lo := 0) (hi := 500) rfl rfl
  have b_4 := g_b hG (a := 77) (i := 1) (lo := 0) (hi := 500) rfl rfl
  have b_5 := g_b hG (a := 0) (i := 12) (lo := 0) (hi := 30) rfl rfl
  have b_6 := g_b hG (a := 77) (i := 28) (lo := 0) (hi := 30) rfl rfl
  have b_7 := g_b hG (a := 6) (i := 0) (lo := 0) (hi := 150) rfl rfl
  have b_8 := g_b hG (a := 77) (i := 29) (lo := 0) (hi := 150) rfl rfl
  refine to_an (pc := 1093) rw_0_1093 rfl (to_an (pc := 1094) rw_0_1094 rfl (to_i (pc := 1095) rw_0_1095 rfl (to_c (pc := 1097) rw_0_1097 (x := (1 : Int32)) rfl rfl (s_add (pc := 1098) rw_0_1098 (A := i.toInt) (B := 1) rfl rfl (by omega) (fun v9 e10 => s_x0 (pc := 1099) rw_0_1099 hL (A := v9.toInt) rfl (by omega) (by omega) (fun v11 e12 => to_an (pc := 1100) rw_0_1100 rfl (to_i (pc := 1101) rw_0_1101 rfl (to_c (pc := 1103) rw_0_1103 (x := (2 : Int32)) rfl rfl (s_add (pc := 1104) rw_0_1104 (A := i.toInt) (B := 2) rfl rfl (by omega) (fun v13 e14 => s_x0 (pc := 1105) rw_0_1105 hL (A := v13.toInt) rfl (by omega) (by omega) (fun v15 e16 => s_v (pc := 1106) rw_0_1106 (dp0 hd (by decide)) (ls0 := [.ref 0, .int v11, .int v15]) rfl (Nat.le_of_ble_eq_true rfl) (Nat.le_of_ble_eq_true rfl) rfl (to_rc rfl rfl rfl (g_o hG rfl)) rfl ?_)))))))))))
  obtain ⟨pz17, pzz17, qz17, qzz17, hpz17, hpzz17, hqz17, hqzz17, hpqz17⟩ := id jPQE
  refine C_134 hX (dp1 hd (by decide)) hG hpz17 hpzz17 hqz17 hqzz17 hpqz17 jNI jPI jQI (n := v11) (w := v15) (p := pz17) (pz := pzz17) (q := qz17) (qz := qzz17) (fun r18 M24 hG20 F19 p_21 p_22 p_23 => ?_)
  have n_25 : M24.1.2.1 = M.1.2.1 ∧ M24.1.2.2.1 = M.1.2.2.1 := by rw [F19.1]; exact ⟨rfl, rfl⟩
  refine to_popi (pc := 1109) rw_0_1109 (to_an (pc := 1110) rw_0_1110 rfl (to_an (pc := 1111) rw_0_1111 rfl (to_i (pc := 1112) rw_0_1112 rfl (to_c (pc := 1114) rw_0_1114 (x := (1 : Int32)) rfl rfl (s_addk (pc := 1115) rw_0_1115 (A := i.toInt) (B := 1) rfl rfl (by omega) (v := v9) e10 (s_x0k (pc := 1116) rw_0_1116 hL (A := v9.toInt) rfl (by omega) (by omega) (v := v11) e12 (to_an (pc := 1117) rw_0_1117 rfl (to_i (pc := 1118) rw_0_1118 rfl (to_c (pc := 1120) rw_0_1120 (x := (2 : Int32)) rfl rfl (s_addk (pc := 1121) rw_0_1121 (A := i.toInt) (B := 2) rfl rfl (by omega) (v := v13) e14 (s_x0k (pc := 1122) rw_0_1122 hL (A := v13.toInt) rfl (by omega) (by omega) (v := v15) e16 ?_)))))))))))
  refine s_v (pc := 1123) rw_0_1123 (dp0 hd (by decide)) (ls0 := [.ref 77, .int v11, .int v15, .null, .null, .null, .null, .null, .null, .null, .null, .null, .null, .null]) rfl (Nat.le_of_ble_eq_true rfl) (Nat.le_of_ble_eq_true rfl) rfl (to_rc rfl rfl rfl (g_o hG20 rfl)) rfl ?_
  have j_31 := (NJ_f (tg_438 F19) jNJ)
  have j_32 := (FA_f (tg_443 F19) jFA)
  have j_33 := (WC_f (tg_445 F19) jWC)
  refine C_237 hX (dp1 hd (by decide)) hG20 j_31 j_32 j_33 (n := v11) (w := v15) (fun r34 M37 hG36 F35 => ?_)
  have n_38 : M37.1.2.1 = M24.1.2.1 ∧ M37.1.2.2.1 = M24.1.2.2.1 := by rw [F35.1]; exact ⟨rfl, rfl⟩
  refine to_popi (pc := 1126) rw_0_1126 (to_go (pc := 1127) rw_0_1127 ?_)
  have c_40 : M37.2.1 77 7 = (M.2.1 77 7) := (F_n F35 (show ¬ (77 = 77 ∧ 7 = 2 ∨ 94 ≤ 77 ∧ 77 ≤ 98 ∨ 77 = 118) by decide) (F_n F19 (show ¬ (11 ≤ 77 ∧ 77 ≤ 16 ∨ 18 ≤ 77 ∧ 77 ≤ 48 ∨ 67 ≤ 77 ∧ 77 ≤ 76) by decide) rfl))
  have t_41 : (M37.2.1 77 7).toInt = (M.2.1 77 7).toInt := congrArg Int32.toInt c_40
  have c_42 : M37.2.1 77 6 = (M.2.1 77 6) := (F_n F35 (show ¬ (77 = 77 ∧ 6 = 2 ∨ 94 ≤ 77 ∧ 77 ≤ 98 ∨ 77 = 118) by decide) (F_n F19 (show ¬ (11 ≤ 77 ∧ 77 ≤ 16 ∨ 18 ≤ 77 ∧ 77 ≤ 48 ∨ 67 ≤ 77 ∧ 77 ≤ 76) by decide) rfl))
  have t_43 : (M37.2.1 77 6).toInt = (M.2.1 77 6).toInt := congrArg Int32.toInt c_42
  have c_44 : M37.2.1 1 1 = (M.2.1 1 1) := (F_n F35 (show ¬ (1 = 77 ∧ 1 = 2 ∨ 94 ≤ 1 ∧ 1 ≤ 98 ∨ 1 = 118) by decide) (F_n F19 (show ¬ (11 ≤ 1 ∧ 1 ≤ 16 ∨ 18 ≤ 1 ∧ 1 ≤ 48 ∨ 67 ≤ 1 ∧ 1 ≤ 76) by decide) rfl))
  have t_45 : (M37.2.1 1 1).toInt = (M.2.1 1 1).toInt := congrArg Int32.toInt c_44
  have c_46 : M37.2.1 77 1 = (M.2.1 77 1) := (F_n F35 (show ¬ (77 = 77 ∧ 1 = 2 ∨ 94 ≤ 77 ∧ 77 ≤ 98 ∨ 77 = 118) by decide) (F_n F19 (show ¬ (11 ≤ 77 ∧ 77 ≤ 16 ∨ 18 ≤ 77 ∧ 77 ≤ 48 ∨ 67 ≤ 77 ∧ 77 ≤ 76) by decide) rfl))
  have t_47 : (M37.2.1 77 1).toInt = (M.2.1 77 1).toInt := congrArg Int32.toInt c_46
  have c_48 : M37.2.1 0 12 = (M.2.1 0 12) := (F_n F35 (show ¬ (0 = 77 ∧ 12 = 2 ∨ 94 ≤ 0 ∧ 0 ≤ 98 ∨ 0 = 118) by decide) (F_n F19 (show ¬ (11 ≤ 0 ∧ 0 ≤ 16 ∨ 18 ≤ 0 ∧ 0 ≤ 48 ∨ 67 ≤ 0 ∧ 0 ≤ 76) by decide) rfl))
  have t_49 : (M37.2.1 0 12).toInt = (M.2.1 0 12).toInt := congrArg Int32.toInt c_48
  have c_50 : M37.2.1 77 28 = (M.2.1 77 28) := (F_n F35 (show ¬ (77 = 77 ∧ 28 = 2 ∨ 94 ≤ 77 ∧ 77 ≤ 98 ∨ 77 = 118) by decide) (F_n F19 (show ¬ (11 ≤ 77 ∧ 77 ≤ 16 ∨ 18 ≤ 77 ∧ 77 ≤ 48 ∨ 67 ≤ 77 ∧ 77 ≤ 76) by decide) rfl))
  have t_51 : (M37.2.1 77 28).toInt = (M.2.1 77 28).toInt := congrArg Int32.toInt c_50
  have c_52 : M37.2.1 17 4 = (M.2.1 17 4) := (F_n F35 (show ¬ (17 = 77 ∧ 4 = 2 ∨ 94 ≤ 17 ∧ 17 ≤ 98 ∨ 17 = 118) by decide) (F_n F19 (show ¬ (11 ≤ 17 ∧ 17 ≤ 16 ∨ 18 ≤ 17 ∧ 17 ≤ 48 ∨ 67 ≤ 17 ∧ 17 ≤ 76) by decide) rfl))
  have t_53 : (M37.2.1 17 4).toInt = (M.2.1 17 4).toInt := congrArg Int32.toInt c_52
  have c_54 : M37.2.1 77 41 = (M.2.1 77 41) := (F_n F35 (show ¬ (77 = 77 ∧ 41 = 2 ∨ 94 ≤ 77 ∧ 77 ≤ 98 ∨ 77 = 118) by decide) (F_n F19 (show ¬ (11 ≤ 77 ∧ 77 ≤ 16 ∨ 18 ≤ 77 ∧ 77 ≤ 48 ∨ 67 ≤ 77 ∧ 77 ≤ 76) by decide) rfl))
  have t_55 : (M37.2.1 77 41).toInt = (M.2.1 77 41).toInt := congrArg Int32.toInt c_54
  have c_56 : M37.2.1 6 0 = (M.2.1 6 0) := (F_n F35 (show ¬ (6 = 77 ∧ 0 = 2 ∨ 94 ≤ 6 ∧ 6 ≤ 98 ∨ 6 = 118) by decide) (F_n F19 (show ¬ (11 ≤ 6 ∧ 6 ≤ 16 ∨ 18 ≤ 6 ∧ 6 ≤ 48 ∨ 67 ≤ 6 ∧ 6 ≤ 76) by decide) rfl))
  have t_57 : (M37.2.1 6 0).toInt = (M.2.1 6 0).toInt := congrArg Int32.toInt c_56
  have c_58 : M37.2.1 77 29 = (M.2.1 77 29) := (F_n F35 (show ¬ (77 = 77 ∧ 29 = 2 ∨ 94 ≤ 77 ∧ 77 ≤ 98 ∨ 77 = 118) by decide) (F_n F19 (show ¬ (11 ≤ 77 ∧ 77 ≤ 16 ∨ 18 ≤ 77 ∧ 77 ≤ 48 ∨ 67 ≤ 77 ∧ 77 ≤ 76) by decide) rfl))
  have t_59 : (M37.2.1 77 29).toInt = (M.2.1 77 29).toInt := congrArg Int32.toInt c_58
  have j_60 := (PI_f (tg_562 F35) p_21)
  have j_61 := (NI_f (tg_563 F35) p_22)
  have j_62 := (QI_f (tg_564 F35) p_23)
  have j_63 := (PQE_r F35.2.1 (PQE_r F19.2.1 jPQE))
  have j_64 := (FA_f (tg_565 F35) j_32)
  have j_65 := (WC_f (tg_566 F35) j_33)
  have j_66 := (NJ_f (tg_567 F35) j_31)
  have j_67 := (PS_f (tg_568 F35) (PS_f (tg_448 F19) jPS))
  have j_68 := (KQ_f (tg_569 F35) (KQ_f (tg_450 F19) jKQ))
  have j_69 := (TP_f (tg_570 F35) (TP_f (tg_452 F19) jTP))
  have j_70 := (W9_f (tg_571 F35) (W9_f (tg_454 F19) jW9))
  have j_71 := (AN_F F35 tg_612 (AN_F F19 tg_502 jAN))
  have j_72 := (NE_r F35.2.1 (NE_r F19.2.1 jNE))
  have j_73 := (W8_f (tg_572 F35) (W8_f (tg_456 F19) jW8))
  exact h M37 (u5) (u6) ⟨⟨⟨⟨⟨⟨⟨⟨hG36, ⟨j_60, j_61, j_62, j_63⟩, ⟨j_64, j_65, j_66, j_67, j_68⟩, by omega, by omega⟩, j_69, j_70⟩, j_72, by omega⟩, AN_a j_71⟩, by omega⟩, j_73⟩, by omega⟩, j_71⟩ (by omega) (by omega)
set_option maxRecDepth 4000 in
set_option maxHeartbeats 0 in
theorem LW_26 {X : mm_X} {d L : Nat} {M : mm_M} {Q : Option Value → mm_M → Prop} {i : Int32} {u5 u6 : Value} (hX : g_X X) (hW : g_W X) (hW2 : g_W2 X) (hL : (X 0).1 = L) (h3 : L ≤ 3072) (hd : 40 ≤ d) (hi : 0 ≤ i.toInt) (hi2 : i.toInt + 6 ≤ (L : Int)) (H : LI9 M) (h : ∀ (M1 : mm_M) (v5 v6 : Value), LI9 M1 → M1.1.2.1 ≤ M.1.2.1 + 1 → M1.1.2.2.1 ≤ M.1.2.2.1 + 6 → mm_T X d 0 1314 [.ref mm_ext, .ref 0, .ref 77, .ref 125, .int i, v5, v6] [] M1 Q) : mm_T X d 0 1130 [.ref mm_ext, .ref 0, .ref 77, .ref 125, .int i, u5, u6] [] M Q := by
  obtain ⟨⟨⟨⟨⟨⟨⟨⟨hG, ⟨jPI, jNI, jQI, jPQE⟩, ⟨jFA, jWC, jNJ, jPS, jKQ⟩, jJ, jE⟩, jTP, jW9⟩, jNE, jCC⟩, -⟩, jOV⟩, jW8⟩, jNN⟩, jAN⟩ := H
  have b_1 := g_b hG (a := 77) (i := 7) (lo := 0) (hi := 500) rfl rfl
  have b_2 := g_b hG (a := 77) (i := 6) (lo := 0) (hi := 500) rfl rfl
  have b_3 := g_b hG (a := 1) (i := 1) (lo := 0) (hi := 500) rfl rfl
  have b_4 := g_b hG (a := 77) (i := 1) (lo := 0) (hi := 500) rfl rfl
  have b_5 := g_b hG (a := 0) (i := 12) (lo := 0) (hi := 30) rfl rfl
  have b_6 := g_b hG (a := 77) (i := 28) (lo := 0) (hi := 30) rfl rfl
  have b_7 := g_b hG (a := 6) (i := 0) (lo := 0) (hi := 150) rfl rfl
  have b_8 := g_b hG (a := 77) (i := 29) (lo := 0) (hi := 150) rfl rfl
  refine to_an (pc := 1130) rw_0_1130 rfl (to_an (pc := 1131) rw_0_1131 rfl (to_i (pc := 1132) rw_0_1132 rfl (to_c (pc := 1134) rw_0_1134 (x := (1 : Int32)) rfl rfl (s_add (pc := 1135) rw_0_1135 (A := i.toInt) (B := 1) rfl rfl (by omega) (fun v9 e10 => s_x0 (pc := 1136) rw_0_1136 hL (A := v9.toInt) rfl (by omega) (by omega) (fun v11 e12 => to_an (pc := 1137) rw_0_1137 rfl (to_i (pc := 1138) rw_0_1138 rfl (to_c (pc := 1140) rw_0_1140 (x := (2 : Int32)) rfl rfl (s_add (pc := 1141) rw_0_1141 (A := i.toInt) (B := 2) rfl rfl (by omega) (fun v13 e14 => s_x0 (pc := 1142) rw_0_1142 hL (A := v13.toInt) rfl (by omega) (by omega) (fun v15 e16 => to_an (pc := 1143) rw_0_1143 rfl ?_)))))))))))
  refine to_i (pc := 1144) rw_0_1144 rfl (to_c (pc := 1146) rw_0_1146 (x := (3 : Int32)) rfl rfl (s_add (pc := 1147) rw_0_1147 (A := i.toInt) (B := 3) rfl rfl (by omega) (fun v17 e18 => s_x0 (pc := 1148) rw_0_1148 hL (A := v17.toInt) rfl (by omega) (by omega) (fun v19 e20 => to_an (pc := 1149) rw_0_1149 rfl (to_i (pc := 1150) rw_0_1150 rfl (to_c (pc := 1152) rw_0_1152 (x := (4 : Int32)) rfl rfl (s_add (pc := 1153) rw_0_1153 (A := i.toInt) (B := 4) rfl rfl (by omega) (fun v21 e22 => s_x0 (pc := 1154) rw_0_1154 hL (A := v21.toInt) rfl (by omega) (by omega) (fun v23 e24 => to_an (pc := 1155) rw_0_1155 rfl (to_i (pc := 1156) rw_0_1156 rfl (to_c (pc := 1158) rw_0_1158 (x := (5 : Int32)) rfl rfl ?_)))))))))))
  refine s_add (pc := 1159) rw_0_1159 (A := i.toInt) (B := 5) rfl rfl (by omega) (fun v25 e26 => s_x0 (pc := 1160) rw_0_1160 hL (A := v25.toInt) rfl (by omega) (by omega) (fun v27 e28 => s_v (pc := 1161) rw_0_1161 (dp0 hd (by decide)) (ls0 := [.ref 0, .int v11, .int v15, .int v19, .int v23, .int v27]) rfl (Nat.le_of_ble_eq_true rfl) (Nat.le_of_ble_eq_true rfl) rfl (to_rc rfl rfl rfl (g_o hG rfl)) rfl ?_))
  obtain ⟨pz29, pzz29, qz29, qzz29, hpz29, hpzz29, hqz29, hqzz29, hpqz29⟩ := id jPQE
  refine C_135 hX (dp1 hd (by decide)) hG hpz29 hpzz29 hqz29 hqzz29 hpqz29 jNI jPI jQI (n := v11) (c := v15) (f := v19) (t := v23) (w := v27) (p := pz29) (pz := pzz29) (q := qz29) (qz := qzz29) (fun r30 M36 hG32 F31 p_33 p_34 p_35 => ?_)
  have n_37 : M36.1.2.1 = M.1.2.1 ∧ M36.1.2.2.1 = M.1.2.2.1 := by rw [F31.1]; exact ⟨rfl, rfl⟩
  refine to_popi (pc := 1164) rw_0_1164 (to_an (pc := 1165) rw_0_1165 rfl (to_an (pc := 1166) rw_0_1166 rfl (to_i (pc := 1167) rw_0_1167 rfl (to_c (pc := 1169) rw_0_1169 (x := (1 : Int32)) rfl rfl (s_addk (pc := 1170) rw_0_1170 (A := i.toInt) (B := 1) rfl rfl (by omega) (v := v9) e10 (s_x0k (pc := 1171) rw_0_1171 hL (A := v9.toInt) rfl (by omega) (by omega) (v := v11) e12 (to_an (pc := 1172) rw_0_1172 rfl (to_i (pc := 1173) rw_0_1173 rfl (to_c (pc := 1175) rw_0_1175 (x := (2 : Int32)) rfl rfl (s_addk (pc := 1176) rw_0_1176 (A := i.toInt) (B := 2) rfl rfl (by omega) (v := v13) e14 (s_x0k (pc := 1177) rw_0_1177 hL (A := v13.toInt) rfl (by omega) (by omega) (v := v15) e16 ?_)))))))))))
  refine to_an (pc := 1178) rw_0_1178 rfl (to_i (pc := 1179) rw_0_1179 rfl (to_c (pc := 1181) rw_0_1181 (x := (3 : Int32)) rfl rfl (s_addk (pc := 1182) rw_0_1182 (A := i.toInt) (B := 3) rfl rfl (by omega) (v := v17) e18 (s_x0k (pc := 1183) rw_0_1183 hL (A := v17.toInt) rfl (by omega) (by omega) (v := v19) e20 (to_an (pc := 1184) rw_0_1184 rfl (to_i (pc := 1185) rw_0_1185 rfl (to_c (pc := 1187) rw_0_1187 (x := (4 : Int32)) rfl rfl (s_addk (pc := 1188) rw_0_1188 (A := i.toInt) (B := 4) rfl rfl (by omega) (v := v21) e22 (s_x0k (pc := 1189) rw_0_1189 hL (A := v21.toInt) rfl (by omega) (by omega) (v := v23) e24 (to_an (pc := 1190) rw_0_1190 rfl (to_i (pc := 1191) rw_0_1191 rfl ?_)))))))))))
  refine to_c (pc := 1193) rw_0_1193 (x := (5 : Int32)) rfl rfl (s_addk (pc := 1194) rw_0_1194 (A := i.toInt) (B := 5) rfl rfl (by omega) (v := v25) e26 (s_x0k (pc := 1195) rw_0_1195 hL (A := v25.toInt) rfl (by omega) (by omega) (v := v27) e28 (s_v (pc := 1196) rw_0_1196 (dp0 hd (by decide)) (ls0 := [.ref 77, .int v11, .int v15, .int v19, .int v23, .int v27]) rfl (Nat.le_of_ble_eq_true rfl) (Nat.le_of_ble_eq_true rfl) rfl (to_rc rfl rfl rfl (g_o hG32 rfl)) rfl ?_)))
  have j_49 := (NJ_f (tg_438 F31) jNJ)
  have j_50 := (FA_f (tg_443 F31) jFA)
  refine C_238 hX (dp1 hd (by decide)) hG32 j_49 j_50 (n := v11) (c := v15) (f := v19) (t := v23) (w := v27) (fun r51 M54 hG53 F52 => ?_)
  have n_55 : M54.1.2.1 = M36.1.2.1 ∧ M54.1.2.2.1 = M36.1.2.2.1 := by rw [F52.1]; exact ⟨rfl, rfl⟩
  refine to_popi (pc := 1199) rw_0_1199 (to_go (pc := 1200) rw_0_1200 ?_)
  have c_57 : M54.2.1 77 7 = (M.2.1 77 7) := (F_n F52 (show ¬ (77 = 77 ∧ 7 = 2 ∨ 94 ≤ 77 ∧ 77 ≤ 98 ∨ 77 = 119) by decide) (F_n F31 (show ¬ (11 ≤ 77 ∧ 77 ≤ 16 ∨ 18 ≤ 77 ∧ 77 ≤ 48 ∨ 67 ≤ 77 ∧ 77 ≤ 76) by decide) rfl))
  have t_58 : (M54.2.1 77 7).toInt = (M.2.1 77 7).toInt := congrArg Int32.toInt c_57
  have c_59 : M54.2.1 77 6 = (M.2.1 77 6) := (F_n F52 (show ¬ (77 = 77 ∧ 6 = 2 ∨ 94 ≤ 77 ∧ 77 ≤ 98 ∨ 77 = 119) by decide) (F_n F31 (show ¬ (11 ≤ 77 ∧ 77 ≤ 16 ∨ 18 ≤ 77 ∧ 77 ≤ 48 ∨ 67 ≤ 77 ∧ 77 ≤ 76) by decide) rfl))
  have t_60 : (M54.2.1 77 6).toInt = (M.2.1 77 6).toInt := congrArg Int32.toInt c_59
  have c_61 : M54.2.1 1 1 = (M.2.1 1 1) := (F_n F52 (show ¬ (1 = 77 ∧ 1 = 2 ∨ 94 ≤ 1 ∧ 1 ≤ 98 ∨ 1 = 119) by decide) (F_n F31 (show ¬ (11 ≤ 1 ∧ 1 ≤ 16 ∨ 18 ≤ 1 ∧ 1 ≤ 48 ∨ 67 ≤ 1 ∧ 1 ≤ 76) by decide) rfl))
  have t_62 : (M54.2.1 1 1).toInt = (M.2.1 1 1).toInt := congrArg Int32.toInt c_61
  have c_63 : M54.2.1 77 1 = (M.2.1 77 1) := (F_n F52 (show ¬ (77 = 77 ∧ 1 = 2 ∨ 94 ≤ 77 ∧ 77 ≤ 98 ∨ 77 = 119) by decide) (F_n F31 (show ¬ (11 ≤ 77 ∧ 77 ≤ 16 ∨ 18 ≤ 77 ∧ 77 ≤ 48 ∨ 67 ≤ 77 ∧ 77 ≤ 76) by decide) rfl))
  have t_64 : (M54.2.1 77 1).toInt = (M.2.1 77 1).toInt := congrArg Int32.toInt c_63
  have c_65 : M54.2.1 0 12 = (M.2.1 0 12) := (F_n F52 (show ¬ (0 = 77 ∧ 12 = 2 ∨ 94 ≤ 0 ∧ 0 ≤ 98 ∨ 0 = 119) by decide) (F_n F31 (show ¬ (11 ≤ 0 ∧ 0 ≤ 16 ∨ 18 ≤ 0 ∧ 0 ≤ 48 ∨ 67 ≤ 0 ∧ 0 ≤ 76) by decide) rfl))
  have t_66 : (M54.2.1 0 12).toInt = (M.2.1 0 12).toInt := congrArg Int32.toInt c_65
  have c_67 : M54.2.1 77 28 = (M.2.1 77 28) := (F_n F52 (show ¬ (77 = 77 ∧ 28 = 2 ∨ 94 ≤ 77 ∧ 77 ≤ 98 ∨ 77 = 119) by decide) (F_n F31 (show ¬ (11 ≤ 77 ∧ 77 ≤ 16 ∨ 18 ≤ 77 ∧ 77 ≤ 48 ∨ 67 ≤ 77 ∧ 77 ≤ 76) by decide) rfl))
  have t_68 : (M54.2.1 77 28).toInt = (M.2.1 77 28).toInt := congrArg Int32.toInt c_67
  have c_69 : M54.2.1 17 4 = (M.2.1 17 4) := (F_n F52 (show ¬ (17 = 77 ∧ 4 = 2 ∨ 94 ≤ 17 ∧ 17 ≤ 98 ∨ 17 = 119) by decide) (F_n F31 (show ¬ (11 ≤ 17 ∧ 17 ≤ 16 ∨ 18 ≤ 17 ∧ 17 ≤ 48 ∨ 67 ≤ 17 ∧ 17 ≤ 76) by decide) rfl))
  have t_70 : (M54.2.1 17 4).toInt = (M.2.1 17 4).toInt := congrArg Int32.toInt c_69
  have c_71 : M54.2.1 77 41 = (M.2.1 77 41) := (F_n F52 (show ¬ (77 = 77 ∧ 41 = 2 ∨ 94 ≤ 77 ∧ 77 ≤ 98 ∨ 77 = 119) by decide) (F_n F31 (show ¬ (11 ≤ 77 ∧ 77 ≤ 16 ∨ 18 ≤ 77 ∧ 77 ≤ 48 ∨ 67 ≤ 77 ∧ 77 ≤ 76) by decide) rfl))
  have t_72 : (M54.2.1 77 41).toInt = (M.2.1 77 41).toInt := congrArg Int32.toInt c_71
  have c_73 : M54.2.1 6 0 = (M.2.1 6 0) := (F_n F52 (show ¬ (6 = 77 ∧ 0 = 2 ∨ 94 ≤ 6 ∧ 6 ≤ 98 ∨ 6 = 119) by decide) (F_n F31 (show ¬ (11 ≤ 6 ∧ 6 ≤ 16 ∨ 18 ≤ 6 ∧ 6 ≤ 48 ∨ 67 ≤ 6 ∧ 6 ≤ 76) by decide) rfl))
  have t_74 : (M54.2.1 6 0).toInt = (M.2.1 6 0).toInt := congrArg Int32.toInt c_73
  have c_75 : M54.2.1 77 29 = (M.2.1 77 29) := (F_n F52 (show ¬ (77 = 77 ∧ 29 = 2 ∨ 94 ≤ 77 ∧ 77 ≤ 98 ∨ 77 = 119) by decide) (F_n F31 (show ¬ (11 ≤ 77 ∧ 77 ≤ 16 ∨ 18 ≤ 77 ∧ 77 ≤ 48 ∨ 67 ≤ 77 ∧ 77 ≤ 76) by decide) rfl))
  have t_76 : (M54.2.1 77 29).toInt = (M.2.1 77 29).toInt := congrArg Int32.toInt c_75
  have j_77 := (PI_f (tg_573 F52) p_33)
  have j_78 := (NI_f (tg_574 F52) p_34)
  have j_79 := (QI_f (tg_575 F52) p_35)
  have j_80 := (PQE_r F52.2.1 (PQE_r F31.2.1 jPQE))
  have j_81 := (FA_f (tg_576 F52) j_50)
  have j_82 := (WC_f (tg_577 F52) (WC_f (tg_445 F31) jWC))
  have j_83 := (NJ_f (tg_578 F52) j_49)
  have j_84 := (PS_f (tg_579 F52) (PS_f (tg_448 F31) jPS))
  have j_85 := (KQ_f (tg_580 F52) (KQ_f (tg_450 F31) jKQ))
  have j_86 := (TP_f (tg_581 F52) (TP_f (tg_452 F31) jTP))
  have j_87 := (W9_f (tg_582 F52) (W9_f (tg_454 F31) jW9))
  have j_88 := (AN_F F52 tg_613 (AN_F F31 tg_502 jAN))
  have j_89 := (NE_r F52.2.1 (NE_r F31.2.1 jNE))
  have j_90 := (W8_f (tg_583 F52) (W8_f (tg_456 F31) jW8))
  exact h M54 (u5) (u6) ⟨⟨⟨⟨⟨⟨⟨⟨hG53, ⟨j_77, j_78, j_79, j_80⟩, ⟨j_81, j_82, j_83, j_84, j_85⟩, by omega, by omega⟩, j_86, j_87⟩, j_89, by omega⟩, AN_a j_88⟩, by omega⟩, j_90⟩, by omega⟩, j_88⟩ (by omega) (by omega)
set_option maxRecDepth 4000 in
set_option maxHeartbeats 0 in
theorem LW_27 {X : mm_X} {d L : Nat} {M : mm_M} {Q : Option Value → mm_M → Prop} {i : Int32} {u5 u6 : Value} (hX : g_X X) (hW : g_W X) (hW2 : g_W2 X) (hL : (X 0).1 = L) (h3 : L ≤ 3072) (hd : 40 ≤ d) (hi : 0 ≤ i.toInt) (hi2 : i.toInt + 6 ≤ (L : Int)) (H : LI9 M) (h : ∀ (M1 : mm_M) (v5 v6 : Value), LI9 M1 → M1.1.2.1 ≤ M.1.2.1 + 1 → M1.1.2.2.1 ≤ M.1.2.2.1 + 6 → mm_T X d 0 1314 [.ref mm_ext, .ref 0, .ref 77, .ref 125, .int i, v5, v6] [] M1 Q) : mm_T X d 0 1203 [.ref mm_ext, .ref 0, .ref 77, .ref 125, .int i, u5, u6] [] M Q := by
  obtain ⟨⟨⟨⟨⟨⟨⟨⟨hG, ⟨jPI, jNI, jQI, jPQE⟩, ⟨jFA, jWC, jNJ, jPS, jKQ⟩, jJ, jE⟩, jTP, jW9⟩, jNE, jCC⟩, -⟩, jOV⟩, jW8⟩, jNN⟩, jAN⟩ := H
  have b_1 := g_b hG (a := 77) (i := 7) (lo := 0) (hi := 500) rfl rfl
  have b_2 := g_b hG (a := 77) (i := 6) (lo := 0) (hi := 500) rfl rfl
  have b_3 := g_b hG (a := 1) (i := 1) (lo := 0) (hi := 500) rfl rfl
  have b_4 := g_b hG (a := 77) (i := 1) (lo := 0) (hi := 500) rfl rfl
  have b_5 := g_b hG (a := 0) (i := 12) (lo := 0) (hi := 30) rfl rfl
  have b_6 := g_b hG (a := 77) (i := 28) (lo := 0) (hi := 30) rfl rfl
  have b_7 := g_b hG (a := 6) (i := 0) (lo := 0) (hi := 150) rfl rfl
  have b_8 := g_b hG (a := 77) (i := 29) (lo := 0) (hi := 150) rfl rfl
  refine to_an (pc := 1203) rw_0_1203 rfl (to_an (pc := 1204) rw_0_1204 rfl (to_i (pc := 1205) rw_0_1205 rfl (to_c (pc := 1207) rw_0_1207 (x := (1 : Int32)) rfl rfl (s_add (pc := 1208) rw_0_1208 (A := i.toInt) (B := 1) rfl rfl (by omega) (fun v9 e10 => s_x0 (pc := 1209) rw_0_1209 hL (A := v9.toInt) rfl (by omega) (by omega) (fun v11 e12 => to_an (pc := 1210) rw_0_1210 rfl (to_i (pc := 1211) rw_0_1211 rfl (to_c (pc := 1213) rw_0_1213 (x := (2 : Int32)) rfl rfl (s_add (pc := 1214) rw_0_1214 (A := i.toInt) (B := 2) rfl rfl (by omega) (fun v13 e14 => s_x0 (pc := 1215) rw_0_1215 hL (A := v13.toInt) rfl (by omega) (by omega) (fun v15 e16 => s_v (pc := 1216) rw_0_1216 (dp0 hd (by decide)) (ls0 := [.ref 0, .int v11, .int v15]) rfl (Nat.le_of_ble_eq_true rfl) (Nat.le_of_ble_eq_true rfl) rfl (to_rc rfl rfl rfl (g_o hG rfl)) rfl ?_)))))))))))
  obtain ⟨pz17, pzz17, qz17, qzz17, hpz17, hpzz17, hqz17, hqzz17, hpqz17⟩ := id jPQE
  refine C_136 hX (dp1 hd (by decide)) hG hpz17 hpzz17 hqz17 hqzz17 hpqz17 jNI jPI jQI (k := v11) (f := v15) (p := pz17) (pz := pzz17) (q := qz17) (qz := qzz17) (fun r18 M24 hG20 F19 p_21 p_22 p_23 => ?_)
  have n_25 : M24.1.2.1 = M.1.2.1 ∧ M24.1.2.2.1 = M.1.2.2.1 := by rw [F19.1]; exact ⟨rfl, rfl⟩
  refine to_popi (pc := 1219) rw_0_1219 (to_an (pc := 1220) rw_0_1220 rfl (to_an (pc := 1221) rw_0_1221 rfl (to_i (pc := 1222) rw_0_1222 rfl (to_c (pc := 1224) rw_0_1224 (x := (1 : Int32)) rfl rfl (s_addk (pc := 1225) rw_0_1225 (A := i.toInt) (B := 1) rfl rfl (by omega) (v := v9) e10 (s_x0k (pc := 1226) rw_0_1226 hL (A := v9.toInt) rfl (by omega) (by omega) (v := v11) e12 (to_an (pc := 1227) rw_0_1227 rfl (to_i (pc := 1228) rw_0_1228 rfl (to_c (pc := 1230) rw_0_1230 (x := (2 : Int32)) rfl rfl (s_addk (pc := 1231) rw_0_1231 (A := i.toInt) (B := 2) rfl rfl (by omega) (v := v13) e14 (s_x0k (pc := 1232) rw_0_1232 hL (A := v13.toInt) rfl (by omega) (by omega) (v := v15) e16 ?_)))))))))))
  refine s_v (pc := 1233) rw_0_1233 (dp0 hd (by decide)) (ls0 := [.ref 77, .int v11, .int v15, .null, .null, .null]) rfl (Nat.le_of_ble_eq_true rfl) (Nat.le_of_ble_eq_true rfl) rfl (to_rc rfl rfl rfl (g_o hG20 rfl)) rfl ?_
  have j_31 := (NJ_f (tg_438 F19) jNJ)
  refine C_242 hX (dp1 hd (by decide)) hG20 j_31 (p := v11) (f := v15) (fun r32 M35 hG34 F33 => ?_)
  have n_36 : M35.1.2.1 = M24.1.2.1 ∧ M35.1.2.2.1 = M24.1.2.2.1 := by rw [F33.1]; exact ⟨rfl, rfl⟩
  refine to_popi (pc := 1236) rw_0_1236 (to_go (pc := 1237) rw_0_1237 ?_)
  have c_38 : M35.2.1 77 7 = (M.2.1 77 7) := (F_n F33 (show ¬ (77 = 77 ∧ 7 = 2 ∨ 94 ≤ 77 ∧ 77 ≤ 98 ∨ 77 = 120) by decide) (F_n F19 (show ¬ (11 ≤ 77 ∧ 77 ≤ 16 ∨ 18 ≤ 77 ∧ 77 ≤ 48 ∨ 67 ≤ 77 ∧ 77 ≤ 76) by decide) rfl))
  have t_39 : (M35.2.1 77 7).toInt = (M.2.1 77 7).toInt := congrArg Int32.toInt c_38
  have c_40 : M35.2.1 77 6 = (M.2.1 77 6) := (F_n F33 (show ¬ (77 = 77 ∧ 6 = 2 ∨ 94 ≤ 77 ∧ 77 ≤ 98 ∨ 77 = 120) by decide) (F_n F19 (show ¬ (11 ≤ 77 ∧ 77 ≤ 16 ∨ 18 ≤ 77 ∧ 77 ≤ 48 ∨ 67 ≤ 77 ∧ 77 ≤ 76) by decide) rfl))
  have t_41 : (M35.2.1 77 6).toInt = (M.2.1 77 6).toInt := congrArg Int32.toInt c_40
  have c_42 : M35.2.1 1 1 = (M.2.1 1 1) := (F_n F33 (show ¬ (1 = 77 ∧ 1 = 2 ∨ 94 ≤ 1 ∧ 1 ≤ 98 ∨ 1 = 120) by decide) (F_n F19 (show ¬ (11 ≤ 1 ∧ 1 ≤ 16 ∨ 18 ≤ 1 ∧ 1 ≤ 48 ∨ 67 ≤ 1 ∧ 1 ≤ 76) by decide) rfl))
  have t_43 : (M35.2.1 1 1).toInt = (M.2.1 1 1).toInt := congrArg Int32.toInt c_42
  have c_44 : M35.2.1 77 1 = (M.2.1 77 1) := (F_n F33 (show ¬ (77 = 77 ∧ 1 = 2 ∨ 94 ≤ 77 ∧ 77 ≤ 98 ∨ 77 = 120) by decide) (F_n F19 (show ¬ (11 ≤ 77 ∧ 77 ≤ 16 ∨ 18 ≤ 77 ∧ 77 ≤ 48 ∨ 67 ≤ 77 ∧ 77 ≤ 76) by decide) rfl))
  have t_45 : (M35.2.1 77 1).toInt = (M.2.1 77 1).toInt := congrArg Int32.toInt c_44
  have c_46 : M35.2.1 0 12 = (M.2.1 0 12) := (F_n F33 (show ¬ (0 = 77 ∧ 12 = 2 ∨ 94 ≤ 0 ∧ 0 ≤ 98 ∨ 0 = 120) by decide) (F_n F19 (show ¬ (11 ≤ 0 ∧ 0 ≤ 16 ∨ 18 ≤ 0 ∧ 0 ≤ 48 ∨ 67 ≤ 0 ∧ 0 ≤ 76) by decide) rfl))
  have t_47 : (M35.2.1 0 12).toInt = (M.2.1 0 12).toInt := congrArg Int32.toInt c_46
  have c_48 : M35.2.1 77 28 = (M.2.1 77 28) := (F_n F33 (show ¬ (77 = 77 ∧ 28 = 2 ∨ 94 ≤ 77 ∧ 77 ≤ 98 ∨ 77 = 120) by decide) (F_n F19 (show ¬ (11 ≤ 77 ∧ 77 ≤ 16 ∨ 18 ≤ 77 ∧ 77 ≤ 48 ∨ 67 ≤ 77 ∧ 77 ≤ 76) by decide) rfl))
  have t_49 : (M35.2.1 77 28).toInt = (M.2.1 77 28).toInt := congrArg Int32.toInt c_48
  have c_50 : M35.2.1 17 4 = (M.2.1 17 4) := (F_n F33 (show ¬ (17 = 77 ∧ 4 = 2 ∨ 94 ≤ 17 ∧ 17 ≤ 98 ∨ 17 = 120) by decide) (F_n F19 (show ¬ (11 ≤ 17 ∧ 17 ≤ 16 ∨ 18 ≤ 17 ∧ 17 ≤ 48 ∨ 67 ≤ 17 ∧ 17 ≤ 76) by decide) rfl))
  have t_51 : (M35.2.1 17 4).toInt = (M.2.1 17 4).toInt := congrArg Int32.toInt c_50
  have c_52 : M35.2.1 77 41 = (M.2.1 77 41) := (F_n F33 (show ¬ (77 = 77 ∧ 41 = 2 ∨ 94 ≤ 77 ∧ 77 ≤ 98 ∨ 77 = 120) by decide) (F_n F19 (show ¬ (11 ≤ 77 ∧ 77 ≤ 16 ∨ 18 ≤ 77 ∧ 77 ≤ 48 ∨ 67 ≤ 77 ∧ 77 ≤ 76) by decide) rfl))
  have t_53 : (M35.2.1 77 41).toInt = (M.2.1 77 41).toInt := congrArg Int32.toInt c_52
  have c_54 : M35.2.1 6 0 = (M.2.1 6 0) := (F_n F33 (show ¬ (6 = 77 ∧ 0 = 2 ∨ 94 ≤ 6 ∧ 6 ≤ 98 ∨ 6 = 120) by decide) (F_n F19 (show ¬ (11 ≤ 6 ∧ 6 ≤ 16 ∨ 18 ≤ 6 ∧ 6 ≤ 48 ∨ 67 ≤ 6 ∧ 6 ≤ 76) by decide) rfl))
  have t_55 : (M35.2.1 6 0).toInt = (M.2.1 6 0).toInt := congrArg Int32.toInt c_54
  have c_56 : M35.2.1 77 29 = (M.2.1 77 29) := (F_n F33 (show ¬ (77 = 77 ∧ 29 = 2 ∨ 94 ≤ 77 ∧ 77 ≤ 98 ∨ 77 = 120) by decide) (F_n F19 (show ¬ (11 ≤ 77 ∧ 77 ≤ 16 ∨ 18 ≤ 77 ∧ 77 ≤ 48 ∨ 67 ≤ 77 ∧ 77 ≤ 76) by decide) rfl))
  have t_57 : (M35.2.1 77 29).toInt = (M.2.1 77 29).toInt := congrArg Int32.toInt c_56
  have j_58 := (PI_f (tg_584 F33) p_21)
  have j_59 := (NI_f (tg_585 F33) p_22)
  have j_60 := (QI_f (tg_586 F33) p_23)
  have j_61 := (PQE_r F33.2.1 (PQE_r F19.2.1 jPQE))
  have j_62 := (FA_f (tg_587 F33) (FA_f (tg_443 F19) jFA))
  have j_63 := (WC_f (tg_588 F33) (WC_f (tg_445 F19) jWC))
  have j_64 := (NJ_f (tg_589 F33) j_31)
  have j_65 := (PS_f (tg_590 F33) (PS_f (tg_448 F19) jPS))
  have j_66 := (KQ_f (tg_591 F33) (KQ_f (tg_450 F19) jKQ))
  have j_67 := (TP_f (tg_592 F33) (TP_f (tg_452 F19) jTP))
  have j_68 := (W9_f (tg_593 F33) (W9_f (tg_454 F19) jW9))
  have j_69 := (AN_F F33 tg_614 (AN_F F19 tg_502 jAN))
  have j_70 := (NE_r F33.2.1 (NE_r F19.2.1 jNE))
  have j_71 := (W8_f (tg_594 F33) (W8_f (tg_456 F19) jW8))
  exact h M35 (u5) (u6) ⟨⟨⟨⟨⟨⟨⟨⟨hG34, ⟨j_58, j_59, j_60, j_61⟩, ⟨j_62, j_63, j_64, j_65, j_66⟩, by omega, by omega⟩, j_67, j_68⟩, j_70, by omega⟩, AN_a j_69⟩, by omega⟩, j_71⟩, by omega⟩, j_69⟩ (by omega) (by omega)
set_option maxRecDepth 4000 in
set_option maxHeartbeats 0 in
theorem LW_28 {X : mm_X} {d L : Nat} {M : mm_M} {Q : Option Value → mm_M → Prop} {i : Int32} {u5 u6 : Value} (hX : g_X X) (hW : g_W X) (hW2 : g_W2 X) (hL : (X 0).1 = L) (h3 : L ≤ 3072) (hd : 40 ≤ d) (hi : 0 ≤ i.toInt) (hi2 : i.toInt + 6 ≤ (L : Int)) (H : LI9 M) (h : ∀ (M1 : mm_M) (v5 v6 : Value), LI9 M1 → M1.1.2.1 ≤ M.1.2.1 + 1 → M1.1.2.2.1 ≤ M.1.2.2.1 + 6 → mm_T X d 0 1314 [.ref mm_ext, .ref 0, .ref 77, .ref 125, .int i, v5, v6] [] M1 Q) : mm_T X d 0 1240 [.ref mm_ext, .ref 0, .ref 77, .ref 125, .int i, u5, u6] [] M Q := by
  obtain ⟨⟨⟨⟨⟨⟨⟨⟨hG, ⟨jPI, jNI, jQI, jPQE⟩, ⟨jFA, jWC, jNJ, jPS, jKQ⟩, jJ, jE⟩, jTP, jW9⟩, jNE, jCC⟩, -⟩, jOV⟩, jW8⟩, jNN⟩, jAN⟩ := H
  have b_1 := g_b hG (a := 77) (i := 7) (lo := 0) (hi := 500) rfl rfl
  have b_2 := g_b hG (a := 77) (i := 6) (lo := 0) (hi := 500) rfl rfl
  have b_3 := g_b hG (a := 1) (i := 1) (lo := 0) (hi := 500) rfl rfl
  have b_4 := g_b hG (a := 77) (i := 1) (lo := 0) (hi := 500) rfl rfl
  have b_5 := g_b hG (a := 0) (i := 12) (lo := 0) (hi := 30) rfl rfl
  have b_6 := g_b hG (a := 77) (i := 28) (lo := 0) (hi := 30) rfl rfl
  have b_7 := g_b hG (a := 6) (i := 0) (lo := 0) (hi := 150) rfl rfl
  have b_8 := g_b hG (a := 77) (i := 29) (lo := 0) (hi := 150) rfl rfl
  refine to_an (pc := 1240) rw_0_1240 rfl (to_an (pc := 1241) rw_0_1241 rfl (to_i (pc := 1242) rw_0_1242 rfl (to_c (pc := 1244) rw_0_1244 (x := (1 : Int32)) rfl rfl (s_add (pc := 1245) rw_0_1245 (A := i.toInt) (B := 1) rfl rfl (by omega) (fun v9 e10 => s_x0 (pc := 1246) rw_0_1246 hL (A := v9.toInt) rfl (by omega) (by omega) (fun v11 e12 => to_an (pc := 1247) rw_0_1247 rfl (to_i (pc := 1248) rw_0_1248 rfl (to_c (pc := 1250) rw_0_1250 (x := (2 : Int32)) rfl rfl (s_add (pc := 1251) rw_0_1251 (A := i.toInt) (B := 2) rfl rfl (by omega) (fun v13 e14 => s_x0 (pc := 1252) rw_0_1252 hL (A := v13.toInt) rfl (by omega) (by omega) (fun v15 e16 => to_an (pc := 1253) rw_0_1253 rfl ?_)))))))))))
  refine to_i (pc := 1254) rw_0_1254 rfl (to_c (pc := 1256) rw_0_1256 (x := (3 : Int32)) rfl rfl (s_add (pc := 1257) rw_0_1257 (A := i.toInt) (B := 3) rfl rfl (by omega) (fun v17 e18 => s_x0 (pc := 1258) rw_0_1258 hL (A := v17.toInt) rfl (by omega) (by omega) (fun v19 e20 => s_v (pc := 1259) rw_0_1259 (dp0 hd (by decide)) (ls0 := [.ref 0, .int v11, .int v15, .int v19]) rfl (Nat.le_of_ble_eq_true rfl) (Nat.le_of_ble_eq_true rfl) rfl (to_rc rfl rfl rfl (g_o hG rfl)) rfl ?_))))
  obtain ⟨pz21, pzz21, qz21, qzz21, hpz21, hpzz21, hqz21, hqzz21, hpqz21⟩ := id jPQE
  refine C_137 hX (dp1 hd (by decide)) hG hpz21 hpzz21 hqz21 hqzz21 hpqz21 jNI jPI jQI (k := v11) (f := v15) (w := v19) (p := pz21) (pz := pzz21) (q := qz21) (qz := qzz21) (fun r22 M28 hG24 F23 p_25 p_26 p_27 => ?_)
  have n_29 : M28.1.2.1 = M.1.2.1 ∧ M28.1.2.2.1 = M.1.2.2.1 := by rw [F23.1]; exact ⟨rfl, rfl⟩
  refine to_popi (pc := 1262) rw_0_1262 (to_an (pc := 1263) rw_0_1263 rfl (to_an (pc := 1264) rw_0_1264 rfl (to_i (pc := 1265) rw_0_1265 rfl (to_c (pc := 1267) rw_0_1267 (x := (1 : Int32)) rfl rfl (s_addk (pc := 1268) rw_0_1268 (A := i.toInt) (B := 1) rfl rfl (by omega) (v := v9) e10 (s_x0k (pc := 1269) rw_0_1269 hL (A := v9.toInt) rfl (by omega) (by omega) (v := v11) e12 (to_an (pc := 1270) rw_0_1270 rfl (to_i (pc := 1271) rw_0_1271 rfl (to_c (pc := 1273) rw_0_1273 (x := (2 : Int32)) rfl rfl (s_addk (pc := 1274) rw_0_1274 (A := i.toInt) (B := 2) rfl rfl (by omega) (v := v13) e14 (s_x0k (pc := 1275) rw_0_1275 hL (A := v13.toInt) rfl (by omega) (by omega) (v := v15) e16 ?_)))))))))))
  refine to_an (pc := 1276) rw_0_1276 rfl (to_i (pc := 1277) rw_0_1277 rfl (to_c (pc := 1279) rw_0_1279 (x := (3 : Int32)) rfl rfl (s_addk (pc := 1280) rw_0_1280 (A := i.toInt) (B := 3) rfl rfl (by omega) (v := v17) e18 (s_x0k (pc := 1281) rw_0_1281 hL (A := v17.toInt) rfl (by omega) (by omega) (v := v19) e20 (s_v (pc := 1282) rw_0_1282 (dp0 hd (by decide)) (ls0 := [.ref 77, .int v11, .int v15, .int v19, .null, .null, .null]) rfl (Nat.le_of_ble_eq_true rfl) (Nat.le_of_ble_eq_true rfl) rfl (to_rc rfl rfl rfl (g_o hG24 rfl)) rfl ?_)))))
  have j_37 := (NJ_f (tg_438 F23) jNJ)
  have j_38 := (FA_f (tg_443 F23) jFA)
  refine C_245 hX (dp1 hd (by decide)) hG24 j_37 j_38 (p := v11) (f := v15) (w := v19) (fun r39 M42 hG41 F40 => ?_)
  have n_43 : M42.1.2.1 = M28.1.2.1 ∧ M42.1.2.2.1 = M28.1.2.2.1 := by rw [F40.1]; exact ⟨rfl, rfl⟩
  refine to_popi (pc := 1285) rw_0_1285 (to_go (pc := 1286) rw_0_1286 ?_)
  have c_45 : M42.2.1 77 7 = (M.2.1 77 7) := (F_n F40 (show ¬ (77 = 77 ∧ 7 = 2 ∨ 94 ≤ 77 ∧ 77 ≤ 98 ∨ 121 ≤ 77 ∧ 77 ≤ 124) by decide) (F_n F23 (show ¬ (11 ≤ 77 ∧ 77 ≤ 16 ∨ 18 ≤ 77 ∧ 77 ≤ 48 ∨ 67 ≤ 77 ∧ 77 ≤ 76) by decide) rfl))
  have t_46 : (M42.2.1 77 7).toInt = (M.2.1 77 7).toInt := congrArg Int32.toInt c_45
  have c_47 : M42.2.1 77 6 = (M.2.1 77 6) := (F_n F40 (show ¬ (77 = 77 ∧ 6 = 2 ∨ 94 ≤ 77 ∧ 77 ≤ 98 ∨ 121 ≤ 77 ∧ 77 ≤ 124) by decide) (F_n F23 (show ¬ (11 ≤ 77 ∧ 77 ≤ 16 ∨ 18 ≤ 77 ∧ 77 ≤ 48 ∨ 67 ≤ 77 ∧ 77 ≤ 76) by decide) rfl))
  have t_48 : (M42.2.1 77 6).toInt = (M.2.1 77 6).toInt := congrArg Int32.toInt c_47
  have c_49 : M42.2.1 1 1 = (M.2.1 1 1) := (F_n F40 (show ¬ (1 = 77 ∧ 1 = 2 ∨ 94 ≤ 1 ∧ 1 ≤ 98 ∨ 121 ≤ 1 ∧ 1 ≤ 124) by decide) (F_n F23 (show ¬ (11 ≤ 1 ∧ 1 ≤ 16 ∨ 18 ≤ 1 ∧ 1 ≤ 48 ∨ 67 ≤ 1 ∧ 1 ≤ 76) by decide) rfl))
  have t_50 : (M42.2.1 1 1).toInt = (M.2.1 1 1).toInt := congrArg Int32.toInt c_49
  have c_51 : M42.2.1 77 1 = (M.2.1 77 1) := (F_n F40 (show ¬ (77 = 77 ∧ 1 = 2 ∨ 94 ≤ 77 ∧ 77 ≤ 98 ∨ 121 ≤ 77 ∧ 77 ≤ 124) by decide) (F_n F23 (show ¬ (11 ≤ 77 ∧ 77 ≤ 16 ∨ 18 ≤ 77 ∧ 77 ≤ 48 ∨ 67 ≤ 77 ∧ 77 ≤ 76) by decide) rfl))
  have t_52 : (M42.2.1 77 1).toInt = (M.2.1 77 1).toInt := congrArg Int32.toInt c_51
  have c_53 : M42.2.1 0 12 = (M.2.1 0 12) := (F_n F40 (show ¬ (0 = 77 ∧ 12 = 2 ∨ 94 ≤ 0 ∧ 0 ≤ 98 ∨ 121 ≤ 0 ∧ 0 ≤ 124) by decide) (F_n F23 (show ¬ (11 ≤ 0 ∧ 0 ≤ 16 ∨ 18 ≤ 0 ∧ 0 ≤ 48 ∨ 67 ≤ 0 ∧ 0 ≤ 76) by decide) rfl))
  have t_54 : (M42.2.1 0 12).toInt = (M.2.1 0 12).toInt := congrArg Int32.toInt c_53
  have c_55 : M42.2.1 77 28 = (M.2.1 77 28) := (F_n F40 (show ¬ (77 = 77 ∧ 28 = 2 ∨ 94 ≤ 77 ∧ 77 ≤ 98 ∨ 121 ≤ 77 ∧ 77 ≤ 124) by decide) (F_n F23 (show ¬ (11 ≤ 77 ∧ 77 ≤ 16 ∨ 18 ≤ 77 ∧ 77 ≤ 48 ∨ 67 ≤ 77 ∧ 77 ≤ 76) by decide) rfl))
  have t_56 : (M42.2.1 77 28).toInt = (M.2.1 77 28).toInt := congrArg Int32.toInt c_55
  have c_57 : M42.2.1 17 4 = (M.2.1 17 4) := (F_n F40 (show ¬ (17 = 77 ∧ 4 = 2 ∨ 94 ≤ 17 ∧ 17 ≤ 98 ∨ 121 ≤ 17 ∧ 17 ≤ 124) by decide) (F_n F23 (show ¬ (11 ≤ 17 ∧ 17 ≤ 16 ∨ 18 ≤ 17 ∧ 17 ≤ 48 ∨ 67 ≤ 17 ∧ 17 ≤ 76) by decide) rfl))
  have t_58 : (M42.2.1 17 4).toInt = (M.2.1 17 4).toInt := congrArg Int32.toInt c_57
  have c_59 : M42.2.1 77 41 = (M.2.1 77 41) := (F_n F40 (show ¬ (77 = 77 ∧ 41 = 2 ∨ 94 ≤ 77 ∧ 77 ≤ 98 ∨ 121 ≤ 77 ∧ 77 ≤ 124) by decide) (F_n F23 (show ¬ (11 ≤ 77 ∧ 77 ≤ 16 ∨ 18 ≤ 77 ∧ 77 ≤ 48 ∨ 67 ≤ 77 ∧ 77 ≤ 76) by decide) rfl))
  have t_60 : (M42.2.1 77 41).toInt = (M.2.1 77 41).toInt := congrArg Int32.toInt c_59
  have c_61 : M42.2.1 6 0 = (M.2.1 6 0) := (F_n F40 (show ¬ (6 = 77 ∧ 0 = 2 ∨ 94 ≤ 6 ∧ 6 ≤ 98 ∨ 121 ≤ 6 ∧ 6 ≤ 124) by decide) (F_n F23 (show ¬ (11 ≤ 6 ∧ 6 ≤ 16 ∨ 18 ≤ 6 ∧ 6 ≤ 48 ∨ 67 ≤ 6 ∧ 6 ≤ 76) by decide) rfl))
  have t_62 : (M42.2.1 6 0).toInt = (M.2.1 6 0).toInt := congrArg Int32.toInt c_61
  have c_63 : M42.2.1 77 29 = (M.2.1 77 29) := (F_n F40 (show ¬ (77 = 77 ∧ 29 = 2 ∨ 94 ≤ 77 ∧ 77 ≤ 98 ∨ 121 ≤ 77 ∧ 77 ≤ 124) by decide) (F_n F23 (show ¬ (11 ≤ 77 ∧ 77 ≤ 16 ∨ 18 ≤ 77 ∧ 77 ≤ 48 ∨ 67 ≤ 77 ∧ 77 ≤ 76) by decide) rfl))
  have t_64 : (M42.2.1 77 29).toInt = (M.2.1 77 29).toInt := congrArg Int32.toInt c_63
  have j_65 := (PI_f (tg_595 F40) p_25)
  have j_66 := (NI_f (tg_596 F40) p_26)
  have j_67 := (QI_f (tg_597 F40) p_27)
  have j_68 := (PQE_r F40.2.1 (PQE_r F23.2.1 jPQE))
  have j_69 := (FA_f (tg_598 F40) j_38)
  have j_70 := (WC_f (tg_599 F40) (WC_f (tg_445 F23) jWC))
  have j_71 := (NJ_f (tg_600 F40) j_37)
  have j_72 := (PS_f (tg_601 F40) (PS_f (tg_448 F23) jPS))
  have j_73 := (KQ_f (tg_602 F40) (KQ_f (tg_450 F23) jKQ))
  have j_74 := (TP_f (tg_603 F40) (TP_f (tg_452 F23) jTP))
  have j_75 := (W9_f (tg_604 F40) (W9_f (tg_454 F23) jW9))
  have j_76 := (AN_F F40 tg_615 (AN_F F23 tg_502 jAN))
  have j_77 := (NE_r F40.2.1 (NE_r F23.2.1 jNE))
  have j_78 := (W8_f (tg_605 F40) (W8_f (tg_456 F23) jW8))
  exact h M42 (u5) (u6) ⟨⟨⟨⟨⟨⟨⟨⟨hG41, ⟨j_65, j_66, j_67, j_68⟩, ⟨j_69, j_70, j_71, j_72, j_73⟩, by omega, by omega⟩, j_74, j_75⟩, j_77, by omega⟩, AN_a j_76⟩, by omega⟩, j_78⟩, by omega⟩, j_76⟩ (by omega) (by omega)
set_option maxRecDepth 4000 in
set_option maxHeartbeats 0 in
theorem LW_29 {X : mm_X} {d L : Nat} {M : mm_M} {Q : Option Value → mm_M → Prop} {i : Int32} {u5 u6 : Value} (hX : g_X X) (hW : g_W X) (hW2 : g_W2 X) (hL : (X 0).1 = L) (h3 : L ≤ 3072) (hd : 40 ≤ d) (hi : 0 ≤ i.toInt) (hi2 : i.toInt + 6 ≤ (L : Int)) (H : LI9 M) (h : ∀ (M1 : mm_M) (v5 v6 : Value), LI9 M1 → M1.1.2.1 ≤ M.1.2.1 + 1 → M1.1.2.2.1 ≤ M.1.2.2.1 + 6 → mm_T X d 0 1314 [.ref mm_ext, .ref 0, .ref 77, .ref 125, .int i, v5, v6] [] M1 Q) : mm_T X d 0 1289 [.ref mm_ext, .ref 0, .ref 77, .ref 125, .int i, u5, u6] [] M Q := by
  obtain ⟨⟨⟨⟨⟨⟨⟨⟨hG, ⟨jPI, jNI, jQI, jPQE⟩, ⟨jFA, jWC, jNJ, jPS, jKQ⟩, jJ, jE⟩, jTP, jW9⟩, jNE, jCC⟩, -⟩, jOV⟩, jW8⟩, jNN⟩, jAN⟩ := H
  have b_1 := g_b hG (a := 77) (i := 7) (lo := 0) (hi := 500) rfl rfl
  have b_2 := g_b hG (a := 77) (i := 6) (lo := 0) (hi := 500) rfl rfl
  have b_3 := g_b hG (a := 1) (i := 1) (lo := 0) (hi := 500) rfl rfl
  have b_4 := g_b hG (a := 77) (i := 1) (lo := 0) (hi := 500) rfl rfl
  have b_5 := g_b hG (a := 0) (i := 12) (lo := 0) (hi := 30) rfl rfl
  have b_6 := g_b hG (a := 77) (i := 28) (lo := 0) (hi := 30) rfl rfl
  have b_7 := g_b hG (a := 6) (i := 0) (lo := 0) (hi := 150) rfl rfl
  have b_8 := g_b hG (a := 77) (i := 29) (lo := 0) (hi := 150) rfl rfl
  refine to_an (pc := 1289) rw_0_1289 rfl (to_an (pc := 1290) rw_0_1290 rfl (to_i (pc := 1291) rw_0_1291 rfl (to_c (pc := 1293) rw_0_1293 (x := (1 : Int32)) rfl rfl (s_add (pc := 1294) rw_0_1294 (A := i.toInt) (B := 1) rfl rfl (by omega) (fun v9 e10 => s_x0 (pc := 1295) rw_0_1295 hL (A := v9.toInt) rfl (by omega) (by omega) (fun v11 e12 => s_v (pc := 1296) rw_0_1296 (dp0 hd (by decide)) (ls0 := [.ref 0, .int v11]) rfl (Nat.le_of_ble_eq_true rfl) (Nat.le_of_ble_eq_true rfl) rfl (to_rc rfl rfl rfl (g_o hG rfl)) rfl ?_))))))
  obtain ⟨pz13, pzz13, qz13, qzz13, hpz13, hpzz13, hqz13, hqzz13, hpqz13⟩ := id jPQE
  refine C_138 hX (dp1 hd (by decide)) hG hpz13 hpzz13 hqz13 hqzz13 hpqz13 (w := v11) (p := pz13) (pz := pzz13) (q := qz13) (qz := qzz13) (fun r14 M17 hG16 F15 => ?_)
  have n_18 : M17.1.2.1 = M.1.2.1 ∧ M17.1.2.2.1 = M.1.2.2.1 := by rw [F15.1]; exact ⟨rfl, rfl⟩
  refine to_popi (pc := 1299) rw_0_1299 (to_an (pc := 1300) rw_0_1300 rfl (to_an (pc := 1301) rw_0_1301 rfl (to_i (pc := 1302) rw_0_1302 rfl (to_c (pc := 1304) rw_0_1304 (x := (1 : Int32)) rfl rfl (s_addk (pc := 1305) rw_0_1305 (A := i.toInt) (B := 1) rfl rfl (by omega) (v := v9) e10 (s_x0k (pc := 1306) rw_0_1306 hL (A := v9.toInt) rfl (by omega) (by omega) (v := v11) e12 (s_v (pc := 1307) rw_0_1307 (dp0 hd (by decide)) (ls0 := [.ref 77, .int v11]) rfl (Nat.le_of_ble_eq_true rfl) (Nat.le_of_ble_eq_true rfl) rfl (to_rc rfl rfl rfl (g_o hG16 rfl)) rfl (C_246 hX (dp1 hd (by decide)) hG16 (w := v11) (fun r22 M25 hG24 F23 => ?_)))))))))
  have n_26 : M25.1.2.1 = M17.1.2.1 ∧ M25.1.2.2.1 = M17.1.2.2.1 := by rw [F23.1]; exact ⟨rfl, rfl⟩
  refine to_popi (pc := 1310) rw_0_1310 (to_go (pc := 1311) rw_0_1311 ?_)
  have c_28 : M25.2.1 77 7 = (M.2.1 77 7) := (F_n F23 (show ¬ (77 = 77 ∧ 7 = 2) by decide) (F_n F15 (show ¬ (77 < 0) by decide) rfl))
  have t_29 : (M25.2.1 77 7).toInt = (M.2.1 77 7).toInt := congrArg Int32.toInt c_28
  have c_30 : M25.2.1 77 6 = (M.2.1 77 6) := (F_n F23 (show ¬ (77 = 77 ∧ 6 = 2) by decide) (F_n F15 (show ¬ (77 < 0) by decide) rfl))
  have t_31 : (M25.2.1 77 6).toInt = (M.2.1 77 6).toInt := congrArg Int32.toInt c_30
  have c_32 : M25.2.1 1 1 = (M.2.1 1 1) := (F_n F23 (show ¬ (1 = 77 ∧ 1 = 2) by decide) (F_n F15 (show ¬ (1 < 0) by decide) rfl))
  have t_33 : (M25.2.1 1 1).toInt = (M.2.1 1 1).toInt := congrArg Int32.toInt c_32
  have c_34 : M25.2.1 77 1 = (M.2.1 77 1) := (F_n F23 (show ¬ (77 = 77 ∧ 1 = 2) by decide) (F_n F15 (show ¬ (77 < 0) by decide) rfl))
  have t_35 : (M25.2.1 77 1).toInt = (M.2.1 77 1).toInt := congrArg Int32.toInt c_34
  have c_36 : M25.2.1 0 12 = (M.2.1 0 12) := (F_n F23 (show ¬ (0 = 77 ∧ 12 = 2) by decide) (F_n F15 (show ¬ (0 < 0) by decide) rfl))
  have t_37 : (M25.2.1 0 12).toInt = (M.2.1 0 12).toInt := congrArg Int32.toInt c_36
  have c_38 : M25.2.1 77 28 = (M.2.1 77 28) := (F_n F23 (show ¬ (77 = 77 ∧ 28 = 2) by decide) (F_n F15 (show ¬ (77 < 0) by decide) rfl))
  have t_39 : (M25.2.1 77 28).toInt = (M.2.1 77 28).toInt := congrArg Int32.toInt c_38
  have c_40 : M25.2.1 17 4 = (M.2.1 17 4) := (F_n F23 (show ¬ (17 = 77 ∧ 4 = 2) by decide) (F_n F15 (show ¬ (17 < 0) by decide) rfl))
  have t_41 : (M25.2.1 17 4).toInt = (M.2.1 17 4).toInt := congrArg Int32.toInt c_40
  have c_42 : M25.2.1 77 41 = (M.2.1 77 41) := (F_n F23 (show ¬ (77 = 77 ∧ 41 = 2) by decide) (F_n F15 (show ¬ (77 < 0) by decide) rfl))
  have t_43 : (M25.2.1 77 41).toInt = (M.2.1 77 41).toInt := congrArg Int32.toInt c_42
  have c_44 : M25.2.1 6 0 = (M.2.1 6 0) := (F_n F23 (show ¬ (6 = 77 ∧ 0 = 2) by decide) (F_n F15 (show ¬ (6 < 0) by decide) rfl))
  have t_45 : (M25.2.1 6 0).toInt = (M.2.1 6 0).toInt := congrArg Int32.toInt c_44
  have c_46 : M25.2.1 77 29 = (M.2.1 77 29) := (F_n F23 (show ¬ (77 = 77 ∧ 29 = 2) by decide) (F_n F15 (show ¬ (77 < 0) by decide) rfl))
  have t_47 : (M25.2.1 77 29).toInt = (M.2.1 77 29).toInt := congrArg Int32.toInt c_46
  have j_48 := (PI_f (tg_423 F23) (PI_f (tg_99 F15) jPI))
  have j_49 := (NI_f (tg_424 F23) (NI_f (tg_98 F15) jNI))
  have j_50 := (QI_f (tg_425 F23) (QI_f (tg_100 F15) jQI))
  have j_51 := (PQE_r F23.2.1 (PQE_r F15.2.1 jPQE))
  have j_52 := (FA_f (tg_426 F23) (FA_f (tg_218 F15) jFA))
  have j_53 := (WC_f (tg_427 F23) (WC_f (tg_428 F15) jWC))
  have j_54 := (NJ_f (tg_429 F23) (NJ_f (tg_102 F15) jNJ))
  have j_55 := (PS_f (tg_430 F23) (PS_f (tg_431 F15) jPS))
  have j_56 := (KQ_f (tg_432 F23) (KQ_f (tg_343 F15) jKQ))
  have j_57 := (TP_f (tg_433 F23) (TP_f (tg_434 F15) jTP))
  have j_58 := (W9_f (tg_435 F23) (W9_f (tg_46 F15) jW9))
  have j_59 := (AN_F F23 tg_499 (AN_F F15 tg_500 jAN))
  have j_60 := (NE_r F23.2.1 (NE_r F15.2.1 jNE))
  have j_61 := (W8_f (tg_436 F23) (W8_f (tg_437 F15) jW8))
  exact h M25 (u5) (u6) ⟨⟨⟨⟨⟨⟨⟨⟨hG24, ⟨j_48, j_49, j_50, j_51⟩, ⟨j_52, j_53, j_54, j_55, j_56⟩, by omega, by omega⟩, j_57, j_58⟩, j_60, by omega⟩, AN_a j_59⟩, by omega⟩, j_61⟩, by omega⟩, j_59⟩ (by omega) (by omega)
end
section
/-! THE FRESH MEMORY -/
noncomputable def fr_1a : mm_M := mm_new mm_M0 10 0 13
noncomputable def fr_A : mm_M := fr_m (fr_r 600 39 109 [.ref 0] fr_1a)
noncomputable def fr_2a : mm_M := mm_new fr_A 11 0 78
noncomputable def fr_B : mm_M := fr_m (fr_r 2000 39 146 [.ref 77] fr_2a)
noncomputable def cr_M : mm_M := mm_new fr_B 101 1 1
/-! the fresh memory, and those after runs that are the same for every script -/
theorem fr_Ar : (fr_r 600 39 109 [.ref 0] fr_1a).map (fun z => z.1) = some none := by decide +kernel
theorem fr_Br : (fr_r 2000 39 146 [.ref 77] fr_2a).map (fun z => z.1) = some none := by decide +kernel
theorem fr_Ae : fr_m (fr_r 600 39 109 [.ref 0] fr_1a) = fr_A := rfl
theorem fr_Be : fr_m (fr_r 2000 39 146 [.ref 77] fr_2a) = fr_B := rfl
theorem fr_0H : ns_H mm_M0 := fun a i z => nomatch z
theorem ns_new {M : mm_M} {c n k : Nat} (h : ns_H M) : ns_H (mm_new M c n k) := h
theorem fr_AH : ns_H fr_A := fr_H fr_Ar rfl (ns_new fr_0H) rfl
theorem fr_BH : ns_H fr_B := fr_H fr_Br rfl (ns_new fr_AH) rfl
theorem cr_M_H : ns_H cr_M := ns_new fr_BH
/-! A CHECKED RUN: each int written is nought, or within its bounds and not in a row that stays nought -/
noncomputable def cw_n (a : Nat) : Bool := Nat.beq a 7 || Nat.beq a 8 || Nat.beq a 9 || Nat.beq a 52 || Nat.beq a 53 || Nat.beq a 61 || Nat.beq a 62 || Nat.beq a 68 || Nat.beq a 69 || Nat.beq a 73 || Nat.beq a 74 || Nat.beq a 81 || Nat.beq a 82 || Nat.beq a 83 || Nat.beq a 84
noncomputable def cw_o (a i : Nat) (v : Int32) : Bool := decide (v = 0) || (!cw_n a && decide (g_lo a i ≤ v.toInt) && decide (v.toInt ≤ g_hi a i))
noncomputable def cw_w (q : mm_R) (st : List Value) : Bool := match q.1 with
  | .iastore => (match st with
    | .int x :: .int i :: .ref a :: _ => cw_o a i.toNatClampNeg x
    | _ => true)
  | .bastore => (match st with
    | .int x :: .int i :: .ref a :: _ => cw_o a i.toNatClampNeg (x &&& 1) && cw_o a i.toNatClampNeg x.toInt8.toInt32
    | _ => true)
  | .putfield _ => (match st with
    | .int x :: .ref a :: _ => cw_o a q.2.2.2.1 x
    | _ => true)
  | _ => true
noncomputable def CK (M : mm_M) : Prop := ∀ a i, cw_o a i (M.2.1 a i) = true
noncomputable def cw_P (o : mm_O) : Prop := match o with
  | .inl (_, _, _, M') => CK M'
  | _ => True
theorem CK_I {M : mm_M} {a i : Nat} {x : Int32} (h : CK M) (hx : cw_o a i x = true) : CK (mm_setI M a i x) := fun b j => by
  show cw_o b j (if b = a ∧ j = i then x else M.2.1 b j) = true
  by_cases e : b = a ∧ j = i
  · rw [if_pos e, e.1, e.2]; exact hx
  · rw [if_neg e]; exact h b j
theorem cw_pI {st : List Value} {K : Int32 → List Value → Prop} (h : ∀ x r, st = .int x :: r → K x r) : mm_pI st K True := by
  unfold mm_pI
  split
  · exact h _ _ rfl
  · trivial
theorem cw_pR {st : List Value} {K : Nat → List Value → Prop} (h : ∀ x r, st = .ref x :: r → K x r) : mm_pR st K True := by
  unfold mm_pR
  split
  · exact h _ _ rfl
  · trivial
theorem CK_rows : ∀ (n k : Nat) (M : mm_M), (mm_rows n k M).2 = M.2
  | 0, _, _ => rfl
  | n + 1, k, M => CK_rows n k (mm_new M 100 k k)
theorem CK_multi {M : mm_M} {n k : Nat} (h : CK M) : CK (mm_multi M n k) := h
set_option maxHeartbeats 4000000 in
theorem cw_step (X : mm_X) (q : mm_R) (pc : Nat) (ls st : List Value) (M : mm_M) (hw : cw_w q st = true) (h : CK M) : mm_stepK X q pc ls st M cw_P True := by
  obtain ⟨i, len, a, b, ps⟩ := q
  cases i with
  | getfield n =>
    clear hw
    refine mo_pR fun x r => mo_b ?_ trivial
    show (match ps with
      | 0 :: _ => cw_P (.inl (pc + len, ls, .int (M.2.1 x b) :: r, M))
      | 1 :: _ => cw_P (.inl (pc + len, ls, .int (M.2.1 x b) :: r, M))
      | 2 :: _ => cw_P (.inl (pc + len, ls, .long (M.2.2.1 x b) :: r, M))
      | 3 :: _ => mm_gO (M.2.2.2 x b) (fun y => cw_P (.inl (pc + len, ls, .ref y :: r, M))) True
      | _ => True)
    split <;> first | exact h | exact mo_gO (fun _ => h) | trivial
  | putfield n =>
    have hw2 : ∀ x y r, st = .int x :: .ref y :: r → cw_o y b x = true := by
      intro x y r e
      subst e
      exact hw
    clear hw
    show (match ps with
      | 0 :: _ => mm_pI st (fun x st => mm_pR st (fun y st => mm_b (mm_isObj M y a) (cw_P (.inl (pc + len, ls, st, mm_setI M y b x))) True) True) True
      | 1 :: _ => mm_pI st (fun x st => mm_pR st (fun y st => mm_b (mm_isObj M y a) (if x = 0 ∨ x = 1 then cw_P (.inl (pc + len, ls, st, mm_setI M y b x)) else True) True) True) True
      | 2 :: _ => mm_pL st (fun x st => mm_pR st (fun y st => mm_b (mm_isObj M y a) (cw_P (.inl (pc + len, ls, st, mm_setL M y b x))) True) True) True
      | 3 :: _ => mm_pR st (fun x st => mm_pR st (fun y st => mm_b (mm_isObj M y a) (mm_b (Nat.blt x M.1.1.1) (cw_P (.inl (pc + len, ls, st, mm_setR M y b (some x)))) True) True) True) True
      | _ => True)
    split
    · exact cw_pI fun x r e => cw_pR fun y r2 e2 => mo_b (CK_I h (hw2 x y r2 (by rw [e, e2]))) trivial
    · exact cw_pI fun x r e => cw_pR fun y r2 e2 => mo_b (mo_i (CK_I h (hw2 x y r2 (by rw [e, e2]))) trivial) trivial
    · exact mo_pL fun _ _ => mo_pR fun _ _ => mo_b h trivial
    · exact mo_pR fun _ _ => mo_pR fun _ _ => mo_b (mo_b h trivial) trivial
    · trivial
  | ireturn =>
    clear hw
    refine mo_pI fun x r => mo_e ?_
    show (match a with
      | 0 => cw_P (.inr (.inr (some (.int x))))
      | _ => if x = 0 ∨ x = 1 then cw_P (.inr (.inr (some (.int x)))) else True)
    split
    · trivial
    · exact mo_i trivial trivial
  | dup2 =>
    have h : mm_p1 st (fun v st => mm_p1 st (fun w st => cw_P (.inl (pc + len, ls, v :: w :: v :: w :: st, M))) True) True := mo_p1 fun _ _ => mo_p1 fun _ _ => h
    exact h
  | iastore => exact cw_pI fun _ _ e => cw_pI fun _ _ e2 => cw_pR fun _ _ e3 => mo_b (mo_i trivial (by subst e3; subst e2; subst e; exact CK_I h hw)) trivial
  | bastore =>
    refine cw_pI fun x r e => cw_pI fun i r2 e2 => cw_pR fun y r3 e3 => ?_
    subst e3; subst e2; subst e
    have hw2 : (cw_o y i.toNatClampNeg (x &&& 1) && cw_o y i.toNatClampNeg x.toInt8.toInt32) = true := hw
    rw [Bool.and_eq_true] at hw2
    exact mo_b (mo_i trivial (CK_I h hw2.1)) (mo_b (mo_i trivial (CK_I h hw2.2)) trivial)
  | new n => exact mo_b h trivial
  | newarray n => exact mo_pI fun _ _ => mo_i trivial (mo_b h trivial)
  | multianewarray n d => exact mo_pI fun _ _ => mo_pI fun _ _ => mo_i trivial (mo_b (CK_multi h) trivial)
  | _ =>
    first
      | trivial
      | exact h
      | exact mo_gR fun _ => h
      | exact mo_gI fun _ => h
      | exact mo_gI fun _ => mo_b h trivial
      | exact mo_gL fun _ => mo_b h trivial
      | exact mo_pI fun _ _ => mo_b h trivial
      | exact mo_pR fun _ _ => mo_b h trivial
      | exact mo_pL fun _ _ => mo_b h trivial
      | exact mo_pI fun _ _ => mo_pI fun _ _ => h
      | exact mo_pL fun _ _ => mo_pL fun _ _ => h
      | exact mo_pI fun _ _ => mo_pL fun _ _ => h
      | exact mo_pI fun _ _ => mo_pI fun _ _ => mo_i trivial h
      | exact mo_pL fun _ _ => mo_pL fun _ _ => mo_i trivial h
      | exact mo_pI fun _ _ => h
      | exact mo_pL fun _ _ => h
      | exact mo_p1 fun _ _ => h
      | exact mo_pI fun _ _ => mo_c h h
      | exact mo_pI fun _ _ => mo_pI fun _ _ => mo_c h h
      | exact mo_pI fun _ _ => mo_i h (mo_gO fun _ => h)
      | exact mo_pI fun _ _ => mo_pR fun _ _ => mo_b (mo_i trivial h) (mo_b (mo_i trivial h) trivial)
      | exact mo_pI fun _ _ => mo_pR fun _ _ => mo_b (mo_i trivial h) trivial
      | exact mo_pI fun _ _ => mo_pR fun _ _ => mo_b (mo_i trivial (mo_gO fun _ => h)) trivial
      | exact mo_pL fun _ _ => mo_pI fun _ _ => mo_pR fun _ _ => mo_b (mo_i trivial h) trivial
      | exact mo_pR fun _ _ => mo_b h (mo_b h trivial)
      | exact mo_pop fun _ _ => trivial
      | exact mo_b (mo_pR fun _ _ => mo_e h) (mo_pop fun _ _ => trivial)
      | exact mo_b (mo_pI fun _ _ => mo_pI fun _ _ => mo_b h trivial) (mo_b (mo_pI fun _ _ => mo_pI fun _ _ => mo_b h trivial) (mo_pop fun _ _ => trivial))
      | exact mo_pL fun _ _ => mo_e trivial
      | exact mo_e trivial
noncomputable def cw_run (X : mm_X) : Nat → Nat → Nat → Nat → List Value → List Value → mm_M → Option (Option Value × mm_M)
  | 0, _, _, _, _, _, _ => none
  | n + 1, d, mi, pc, ls, st, M => match mm_code mi pc with
    | none => none
    | some q => bif cw_w q st then mm_stepK X q pc ls st M (fun o => match o with
      | .inl (pc', ls', st', M') => cw_run X n d mi pc' ls' st' M'
      | .inr (.inr r) => some (r, M)
      | .inr (.inl (y, as, rest)) => match d, Nat.ble (mm_w8 rest) 8 with
        | d' + 1, true => match (bif Nat.beq y 998 then none else bif mm_rc M y as then cw_run X n d' y 0 (mm_entry y as) [] M else none) with
          | none => none
          | some (r, M') => cw_run X n (d' + 1) mi (pc + 3) ls (r.toList ++ rest) M'
        | _, _ => none) none else none
set_option maxHeartbeats 4000000 in
theorem cw_run_1 {X : mm_X} : ∀ {n d mi pc : Nat} {ls st : List Value} {M : mm_M} {z : Option Value × mm_M}, cw_run X n d mi pc ls st M = some z → mm_run X n d mi pc ls st M = some z ∧ (CK M → CK z.2)
  | 0, _, _, _, _, _, _, _, h => nomatch h
  | n + 1, d, mi, pc, ls, st, M, z, h => by
    unfold cw_run at h
    unfold mm_run
    cases hc : mm_code mi pc with
    | none => rw [hc] at h; cases h
    | some q =>
      rw [hc] at h
      simp only [] at h ⊢
      cases hw : cw_w q st with
      | false => rw [hw] at h; cases h
      | true =>
        rw [hw, cond_true] at h
        have hP : CK M → mm_stepK X q pc ls st M cw_P True := cw_step X q pc ls st M hw
        rw [mm_stepK_eq] at h hP ⊢
        cases hs : mm_step X q pc ls st M with
        | none => rw [hs] at h; cases h
        | some o =>
          rw [hs] at h hP
          match o, h, hP with
          | .inl (pc', ls', st', M'), h, hP =>
            have g := cw_run_1 h
            exact ⟨g.1, fun k => g.2 (hP k)⟩
          | .inr (.inr r'), h, hP =>
            cases h
            exact ⟨rfl, fun k => k⟩
          | .inr (.inl (y, as, rest)), h, hP =>
            match d, h with
            | 0, h => cases h
            | d' + 1, h =>
              cases hb : Nat.ble (mm_w8 rest) 8 with
              | false =>
                simp only [hb] at h
                cases h
              | true =>
                simp only [hb] at h ⊢
                cases e1 : Nat.beq y 998 with
                | true => rw [e1, cond_true] at h; cases h
                | false =>
                  rw [e1, cond_false] at h
                  rw [cond_false]
                  cases hr : mm_rc M y as with
                  | false => rw [hr, cond_false] at h; cases h
                  | true =>
                    rw [hr, cond_true] at h
                    rw [cond_true]
                    cases hk : cw_run X n d' y 0 (mm_entry y as) [] M with
                    | none => rw [hk] at h; cases h
                    | some w =>
                      obtain ⟨r1, M1⟩ := w
                      rw [hk] at h
                      have g1 := cw_run_1 hk
                      have g2 := cw_run_1 h
                      rw [g1.1]
                      exact ⟨g2.1, fun k => g2.2 (g1.2 k)⟩
noncomputable def cw_r (n d y : Nat) (as : List Value) (M : mm_M) : Option (Option Value × mm_M) := cw_run (fr_X 0 (fun _ => 0)) n d y 0 (mm_entry y as) [] M
theorem CK_m {n d y : Nat} {as : List Value} {M : mm_M} (h : (cw_r n d y as M).isSome = true) (h0 : CK M) : CK (fr_m (fr_r n d y as M)) := by
  cases hr : cw_r n d y as M with
  | none => rw [hr] at h; cases h
  | some z =>
    have g := cw_run_1 hr
    have e : fr_r n d y as M = some z := g.1
    rw [e]
    exact g.2 h0
theorem bl_f {i k : Nat} (h : k ≤ i) : Nat.blt i k = false := by
  cases e : Nat.blt i k with
  | false => rfl
  | true => exact absurd (Nat.le_of_ble_eq_true e) (by omega)
theorem g_lo_i {a i : Nat} (h : 100 ≤ i) : g_lo a i = g_lo a 100 := by
  unfold g_lo
  simp only [bl_f (show 1 ≤ i by omega), bl_f (show 1 ≤ 100 by decide), bl_f (show 2 ≤ i by omega), bl_f (show 2 ≤ 100 by decide), bl_f (show 3 ≤ i by omega), bl_f (show 3 ≤ 100 by decide), bl_f (show 4 ≤ i by omega), bl_f (show 4 ≤ 100 by decide), bl_f (show 5 ≤ i by omega), bl_f (show 5 ≤ 100 by decide), bl_f (show 6 ≤ i by omega), bl_f (show 6 ≤ 100 by decide), bl_f (show 7 ≤ i by omega), bl_f (show 7 ≤ 100 by decide), bl_f (show 9 ≤ i by omega), bl_f (show 9 ≤ 100 by decide), bl_f (show 10 ≤ i by omega), bl_f (show 10 ≤ 100 by decide), bl_f (show 11 ≤ i by omega), bl_f (show 11 ≤ 100 by decide), bl_f (show 12 ≤ i by omega), bl_f (show 12 ≤ 100 by decide), bl_f (show 13 ≤ i by omega), bl_f (show 13 ≤ 100 by decide), bl_f (show 14 ≤ i by omega), bl_f (show 14 ≤ 100 by decide), bl_f (show 15 ≤ i by omega), bl_f (show 15 ≤ 100 by decide), bl_f (show 17 ≤ i by omega), bl_f (show 17 ≤ 100 by decide), bl_f (show 28 ≤ i by omega), bl_f (show 28 ≤ 100 by decide), bl_f (show 30 ≤ i by omega), bl_f (show 30 ≤ 100 by decide), bl_f (show 43 ≤ i by omega), bl_f (show 43 ≤ 100 by decide), bl_f (show 45 ≤ i by omega), bl_f (show 45 ≤ 100 by decide), bl_f (show 52 ≤ i by omega), bl_f (show 52 ≤ 100 by decide), bl_f (show 53 ≤ i by omega), bl_f (show 53 ≤ 100 by decide), bl_f (show 57 ≤ i by omega), bl_f (show 57 ≤ 100 by decide), bl_f (show 60 ≤ i by omega), bl_f (show 60 ≤ 100 by decide), bl_f (show 65 ≤ i by omega), bl_f (show 65 ≤ 100 by decide), bl_f (show 70 ≤ i by omega), bl_f (show 70 ≤ 100 by decide), cond_false]
theorem g_lo_a {a i : Nat} (h : 126 ≤ a) : g_lo a i = -2147483648 := by
  unfold g_lo
  simp only [bl_f (show 1 ≤ a by omega), bl_f (show 2 ≤ a by omega), bl_f (show 6 ≤ a by omega), bl_f (show 7 ≤ a by omega), bl_f (show 9 ≤ a by omega), bl_f (show 16 ≤ a by omega), bl_f (show 17 ≤ a by omega), bl_f (show 19 ≤ a by omega), bl_f (show 27 ≤ a by omega), bl_f (show 28 ≤ a by omega), bl_f (show 29 ≤ a by omega), bl_f (show 30 ≤ a by omega), bl_f (show 33 ≤ a by omega), bl_f (show 34 ≤ a by omega), bl_f (show 36 ≤ a by omega), bl_f (show 39 ≤ a by omega), bl_f (show 40 ≤ a by omega), bl_f (show 42 ≤ a by omega), bl_f (show 43 ≤ a by omega), bl_f (show 44 ≤ a by omega), bl_f (show 45 ≤ a by omega), bl_f (show 49 ≤ a by omega), bl_f (show 50 ≤ a by omega), bl_f (show 51 ≤ a by omega), bl_f (show 55 ≤ a by omega), bl_f (show 56 ≤ a by omega), bl_f (show 57 ≤ a by omega), bl_f (show 58 ≤ a by omega), bl_f (show 59 ≤ a by omega), bl_f (show 60 ≤ a by omega), bl_f (show 64 ≤ a by omega), bl_f (show 65 ≤ a by omega), bl_f (show 66 ≤ a by omega), bl_f (show 67 ≤ a by omega), bl_f (show 68 ≤ a by omega), bl_f (show 70 ≤ a by omega), bl_f (show 72 ≤ a by omega), bl_f (show 73 ≤ a by omega), bl_f (show 75 ≤ a by omega), bl_f (show 77 ≤ a by omega), bl_f (show 78 ≤ a by omega), bl_f (show 79 ≤ a by omega), bl_f (show 81 ≤ a by omega), bl_f (show 85 ≤ a by omega), bl_f (show 86 ≤ a by omega), bl_f (show 87 ≤ a by omega), bl_f (show 90 ≤ a by omega), bl_f (show 92 ≤ a by omega), bl_f (show 94 ≤ a by omega), bl_f (show 95 ≤ a by omega), bl_f (show 99 ≤ a by omega), bl_f (show 102 ≤ a by omega), bl_f (show 105 ≤ a by omega), bl_f (show 106 ≤ a by omega), bl_f (show 108 ≤ a by omega), bl_f (show 114 ≤ a by omega), bl_f (show 115 ≤ a by omega), bl_f (show 120 ≤ a by omega), bl_f (show 121 ≤ a by omega), bl_f (show 125 ≤ a by omega), cond_false]
theorem g_hi_i {a i : Nat} (h : 100 ≤ i) : g_hi a i = g_hi a 100 := by
  unfold g_hi
  simp only [bl_f (show 1 ≤ i by omega), bl_f (show 1 ≤ 100 by decide), bl_f (show 2 ≤ i by omega), bl_f (show 2 ≤ 100 by decide), bl_f (show 3 ≤ i by omega), bl_f (show 3 ≤ 100 by decide), bl_f (show 4 ≤ i by omega), bl_f (show 4 ≤ 100 by decide), bl_f (show 5 ≤ i by omega), bl_f (show 5 ≤ 100 by decide), bl_f (show 6 ≤ i by omega), bl_f (show 6 ≤ 100 by decide), bl_f (show 7 ≤ i by omega), bl_f (show 7 ≤ 100 by decide), bl_f (show 8 ≤ i by omega), bl_f (show 8 ≤ 100 by decide), bl_f (show 9 ≤ i by omega), bl_f (show 9 ≤ 100 by decide), bl_f (show 10 ≤ i by omega), bl_f (show 10 ≤ 100 by decide), bl_f (show 11 ≤ i by omega), bl_f (show 11 ≤ 100 by decide), bl_f (show 12 ≤ i by omega), bl_f (show 12 ≤ 100 by decide), bl_f (show 13 ≤ i by omega), bl_f (show 13 ≤ 100 by decide), bl_f (show 14 ≤ i by omega), bl_f (show 14 ≤ 100 by decide), bl_f (show 15 ≤ i by omega), bl_f (show 15 ≤ 100 by decide), bl_f (show 16 ≤ i by omega), bl_f (show 16 ≤ 100 by decide), bl_f (show 17 ≤ i by omega), bl_f (show 17 ≤ 100 by decide), bl_f (show 28 ≤ i by omega), bl_f (show 28 ≤ 100 by decide), bl_f (show 29 ≤ i by omega), bl_f (show 29 ≤ 100 by decide), bl_f (show 30 ≤ i by omega), bl_f (show 30 ≤ 100 by decide), bl_f (show 43 ≤ i by omega), bl_f (show 43 ≤ 100 by decide), bl_f (show 44 ≤ i by omega), bl_f (show 44 ≤ 100 by decide), bl_f (show 45 ≤ i by omega), bl_f (show 45 ≤ 100 by decide), bl_f (show 52 ≤ i by omega), bl_f (show 52 ≤ 100 by decide), bl_f (show 53 ≤ i by omega), bl_f (show 53 ≤ 100 by decide), bl_f (show 57 ≤ i by omega), bl_f (show 57 ≤ 100 by decide), bl_f (show 58 ≤ i by omega), bl_f (show 58 ≤ 100 by decide), bl_f (show 60 ≤ i by omega), bl_f (show 60 ≤ 100 by decide), bl_f (show 65 ≤ i by omega), bl_f (show 65 ≤ 100 by decide), bl_f (show 66 ≤ i by omega), bl_f (show 66 ≤ 100 by decide), bl_f (show 67 ≤ i by omega), bl_f (show 67 ≤ 100 by decide), bl_f (show 68 ≤ i by omega), bl_f (show 68 ≤ 100 by decide), bl_f (show 69 ≤ i by omega), bl_f (show 69 ≤ 100 by decide), bl_f (show 70 ≤ i by omega), bl_f (show 70 ≤ 100 by decide), cond_false]
theorem g_hi_a {a i : Nat} (h : 126 ≤ a) : g_hi a i = 2147483647 := by
  unfold g_hi
  simp only [bl_f (show 1 ≤ a by omega), bl_f (show 2 ≤ a by omega), bl_f (show 6 ≤ a by omega), bl_f (show 7 ≤ a by omega), bl_f (show 8 ≤ a by omega), bl_f (show 9 ≤ a by omega), bl_f (show 16 ≤ a by omega), bl_f (show 17 ≤ a by omega), bl_f (show 19 ≤ a by omega), bl_f (show 25 ≤ a by omega), bl_f (show 26 ≤ a by omega), bl_f (show 27 ≤ a by omega), bl_f (show 28 ≤ a by omega), bl_f (show 29 ≤ a by omega), bl_f (show 30 ≤ a by omega), bl_f (show 33 ≤ a by omega), bl_f (show 34 ≤ a by omega), bl_f (show 35 ≤ a by omega), bl_f (show 36 ≤ a by omega), bl_f (show 39 ≤ a by omega), bl_f (show 40 ≤ a by omega), bl_f (show 42 ≤ a by omega), bl_f (show 43 ≤ a by omega), bl_f (show 44 ≤ a by omega), bl_f (show 45 ≤ a by omega), bl_f (show 49 ≤ a by omega), bl_f (show 50 ≤ a by omega), bl_f (show 51 ≤ a by omega), bl_f (show 52 ≤ a by omega), bl_f (show 53 ≤ a by omega), bl_f (show 54 ≤ a by omega), bl_f (show 55 ≤ a by omega), bl_f (show 56 ≤ a by omega), bl_f (show 57 ≤ a by omega), bl_f (show 58 ≤ a by omega), bl_f (show 59 ≤ a by omega), bl_f (show 60 ≤ a by omega), bl_f (show 61 ≤ a by omega), bl_f (show 62 ≤ a by omega), bl_f (show 63 ≤ a by omega), bl_f (show 64 ≤ a by omega), bl_f (show 65 ≤ a by omega), bl_f (show 66 ≤ a by omega), bl_f (show 67 ≤ a by omega), bl_f (show 68 ≤ a by omega), bl_f (show 69 ≤ a by omega), bl_f (show 70 ≤ a by omega), bl_f (show 72 ≤ a by omega), bl_f (show 73 ≤ a by omega), bl_f (show 74 ≤ a by omega), bl_f (show 75 ≤ a by omega), bl_f (show 77 ≤ a by omega), bl_f (show 78 ≤ a by omega), bl_f (show 79 ≤ a by omega), bl_f (show 81 ≤ a by omega), bl_f (show 82 ≤ a by omega), bl_f (show 83 ≤ a by omega), bl_f (show 84 ≤ a by omega), bl_f (show 85 ≤ a by omega), bl_f (show 86 ≤ a by omega), bl_f (show 87 ≤ a by omega), bl_f (show 90 ≤ a by omega), bl_f (show 91 ≤ a by omega), bl_f (show 92 ≤ a by omega), bl_f (show 94 ≤ a by omega), bl_f (show 95 ≤ a by omega), bl_f (show 99 ≤ a by omega), bl_f (show 100 ≤ a by omega), bl_f (show 101 ≤ a by omega), bl_f (show 102 ≤ a by omega), bl_f (show 103 ≤ a by omega), bl_f (show 105 ≤ a by omega), bl_f (show 106 ≤ a by omega), bl_f (show 108 ≤ a by omega), bl_f (show 109 ≤ a by omega), bl_f (show 110 ≤ a by omega), bl_f (show 111 ≤ a by omega), bl_f (show 112 ≤ a by omega), bl_f (show 113 ≤ a by omega), bl_f (show 114 ≤ a by omega), bl_f (show 115 ≤ a by omega), bl_f (show 116 ≤ a by omega), bl_f (show 117 ≤ a by omega), bl_f (show 118 ≤ a by omega), bl_f (show 119 ≤ a by omega), bl_f (show 120 ≤ a by omega), bl_f (show 121 ≤ a by omega), bl_f (show 123 ≤ a by omega), bl_f (show 124 ≤ a by omega), bl_f (show 125 ≤ a by omega), cond_false]
theorem g_rf_i {a i : Nat} (h : 80 ≤ i) : g_rf a i = g_rf a 80 := by
  unfold g_rf
  simp only [bl_f (show 1 ≤ i by omega), bl_f (show 1 ≤ 80 by decide), bl_f (show 2 ≤ i by omega), bl_f (show 2 ≤ 80 by decide), bl_f (show 3 ≤ i by omega), bl_f (show 3 ≤ 80 by decide), bl_f (show 4 ≤ i by omega), bl_f (show 4 ≤ 80 by decide), bl_f (show 5 ≤ i by omega), bl_f (show 5 ≤ 80 by decide), bl_f (show 6 ≤ i by omega), bl_f (show 6 ≤ 80 by decide), bl_f (show 7 ≤ i by omega), bl_f (show 7 ≤ 80 by decide), bl_f (show 8 ≤ i by omega), bl_f (show 8 ≤ 80 by decide), bl_f (show 9 ≤ i by omega), bl_f (show 9 ≤ 80 by decide), bl_f (show 10 ≤ i by omega), bl_f (show 10 ≤ 80 by decide), bl_f (show 11 ≤ i by omega), bl_f (show 11 ≤ 80 by decide), bl_f (show 12 ≤ i by omega), bl_f (show 12 ≤ 80 by decide), bl_f (show 13 ≤ i by omega), bl_f (show 13 ≤ 80 by decide), bl_f (show 17 ≤ i by omega), bl_f (show 17 ≤ 80 by decide), bl_f (show 18 ≤ i by omega), bl_f (show 18 ≤ 80 by decide), bl_f (show 19 ≤ i by omega), bl_f (show 19 ≤ 80 by decide), bl_f (show 20 ≤ i by omega), bl_f (show 20 ≤ 80 by decide), bl_f (show 21 ≤ i by omega), bl_f (show 21 ≤ 80 by decide), bl_f (show 22 ≤ i by omega), bl_f (show 22 ≤ 80 by decide), bl_f (show 23 ≤ i by omega), bl_f (show 23 ≤ 80 by decide), bl_f (show 24 ≤ i by omega), bl_f (show 24 ≤ 80 by decide), bl_f (show 25 ≤ i by omega), bl_f (show 25 ≤ 80 by decide), bl_f (show 26 ≤ i by omega), bl_f (show 26 ≤ 80 by decide), bl_f (show 27 ≤ i by omega), bl_f (show 27 ≤ 80 by decide), bl_f (show 28 ≤ i by omega), bl_f (show 28 ≤ 80 by decide), bl_f (show 30 ≤ i by omega), bl_f (show 30 ≤ 80 by decide), bl_f (show 31 ≤ i by omega), bl_f (show 31 ≤ 80 by decide), bl_f (show 32 ≤ i by omega), bl_f (show 32 ≤ 80 by decide), bl_f (show 33 ≤ i by omega), bl_f (show 33 ≤ 80 by decide), bl_f (show 34 ≤ i by omega), bl_f (show 34 ≤ 80 by decide), bl_f (show 35 ≤ i by omega), bl_f (show 35 ≤ 80 by decide), bl_f (show 36 ≤ i by omega), bl_f (show 36 ≤ 80 by decide), bl_f (show 37 ≤ i by omega), bl_f (show 37 ≤ 80 by decide), bl_f (show 38 ≤ i by omega), bl_f (show 38 ≤ 80 by decide), bl_f (show 39 ≤ i by omega), bl_f (show 39 ≤ 80 by decide), bl_f (show 40 ≤ i by omega), bl_f (show 40 ≤ 80 by decide), bl_f (show 41 ≤ i by omega), bl_f (show 41 ≤ 80 by decide), bl_f (show 45 ≤ i by omega), bl_f (show 45 ≤ 80 by decide), bl_f (show 46 ≤ i by omega), bl_f (show 46 ≤ 80 by decide), bl_f (show 47 ≤ i by omega), bl_f (show 47 ≤ 80 by decide), bl_f (show 48 ≤ i by omega), bl_f (show 48 ≤ 80 by decide), bl_f (show 49 ≤ i by omega), bl_f (show 49 ≤ 80 by decide), bl_f (show 50 ≤ i by omega), bl_f (show 50 ≤ 80 by decide), bl_f (show 51 ≤ i by omega), bl_f (show 51 ≤ 80 by decide), bl_f (show 52 ≤ i by omega), bl_f (show 52 ≤ 80 by decide), bl_f (show 53 ≤ i by omega), bl_f (show 53 ≤ 80 by decide), bl_f (show 54 ≤ i by omega), bl_f (show 54 ≤ 80 by decide), bl_f (show 55 ≤ i by omega), bl_f (show 55 ≤ 80 by decide), bl_f (show 56 ≤ i by omega), bl_f (show 56 ≤ 80 by decide), bl_f (show 57 ≤ i by omega), bl_f (show 57 ≤ 80 by decide), bl_f (show 60 ≤ i by omega), bl_f (show 60 ≤ 80 by decide), bl_f (show 61 ≤ i by omega), bl_f (show 61 ≤ 80 by decide), bl_f (show 62 ≤ i by omega), bl_f (show 62 ≤ 80 by decide), bl_f (show 63 ≤ i by omega), bl_f (show 63 ≤ 80 by decide), bl_f (show 64 ≤ i by omega), bl_f (show 64 ≤ 80 by decide), bl_f (show 65 ≤ i by omega), bl_f (show 65 ≤ 80 by decide), bl_f (show 70 ≤ i by omega), bl_f (show 70 ≤ 80 by decide), bl_f (show 71 ≤ i by omega), bl_f (show 71 ≤ 80 by decide), bl_f (show 72 ≤ i by omega), bl_f (show 72 ≤ 80 by decide), bl_f (show 73 ≤ i by omega), bl_f (show 73 ≤ 80 by decide), bl_f (show 74 ≤ i by omega), bl_f (show 74 ≤ 80 by decide), bl_f (show 75 ≤ i by omega), bl_f (show 75 ≤ 80 by decide), bl_f (show 76 ≤ i by omega), bl_f (show 76 ≤ 80 by decide), bl_f (show 77 ≤ i by omega), bl_f (show 77 ≤ 80 by decide), bl_f (show 78 ≤ i by omega), bl_f (show 78 ≤ 80 by decide), cond_false]
theorem g_rf_a {a i : Nat} (h : 126 ≤ a) : g_rf a i = none := by
  unfold g_rf
  simp only [bl_f (show 1 ≤ a by omega), bl_f (show 2 ≤ a by omega), bl_f (show 6 ≤ a by omega), bl_f (show 7 ≤ a by omega), bl_f (show 11 ≤ a by omega), bl_f (show 12 ≤ a by omega), bl_f (show 17 ≤ a by omega), bl_f (show 18 ≤ a by omega), bl_f (show 19 ≤ a by omega), bl_f (show 28 ≤ a by omega), bl_f (show 29 ≤ a by omega), bl_f (show 36 ≤ a by omega), bl_f (show 37 ≤ a by omega), bl_f (show 39 ≤ a by omega), bl_f (show 40 ≤ a by omega), bl_f (show 42 ≤ a by omega), bl_f (show 43 ≤ a by omega), bl_f (show 49 ≤ a by omega), bl_f (show 50 ≤ a by omega), bl_f (show 58 ≤ a by omega), bl_f (show 59 ≤ a by omega), bl_f (show 67 ≤ a by omega), bl_f (show 68 ≤ a by omega), bl_f (show 72 ≤ a by omega), bl_f (show 73 ≤ a by omega), bl_f (show 77 ≤ a by omega), bl_f (show 78 ≤ a by omega), bl_f (show 126 ≤ a by omega), cond_false]
noncomputable def bx_c (a i : Nat) : Bool := (Nat.beq a 49 && Nat.beq i 0) || (Nat.beq a 58 && Nat.beq i 0) || (Nat.beq a 77 && Nat.beq i 11) || (Nat.beq a 77 && Nat.beq i 14)
noncomputable def bx_b : Bool := (List.range 126).all fun a => (List.range 101).all fun i => bx_c a i || (decide (g_lo a i ≤ 0) && decide (0 ≤ g_hi a i))
theorem bx_t : bx_b = true := by decide +kernel
theorem bx_1 {a i : Nat} (ha : a < 126) (hi : i < 101) : (bx_c a i || (decide (g_lo a i ≤ 0) && decide (0 ≤ g_hi a i))) = true := List.all_eq_true.mp (List.all_eq_true.mp bx_t a (List.mem_range.mpr ha)) i (List.mem_range.mpr hi)
theorem bx_0 (a i : Nat) : bx_c a i = true ∨ (g_lo a i ≤ 0 ∧ 0 ≤ g_hi a i) := by
  by_cases ha : a < 126
  · by_cases hi : i < 101
    · have h := bx_1 ha hi
      rw [Bool.or_eq_true, Bool.and_eq_true, decide_eq_true_eq, decide_eq_true_eq] at h
      exact h
    · have h := bx_1 (i := 100) ha (by omega)
      rw [Bool.or_eq_true, Bool.and_eq_true, decide_eq_true_eq, decide_eq_true_eq] at h
      rcases h with h | h
      · exfalso
        revert h
        unfold bx_c
        rw [show Nat.beq 100 0 = false from rfl, show Nat.beq 100 11 = false from rfl, show Nat.beq 100 14 = false from rfl]
        simp only [Bool.and_false, Bool.or_false]
        exact fun z => nomatch z
      · right
        rw [g_lo_i (by omega), g_hi_i (by omega)]
        exact h
  · right
    rw [g_lo_a (by omega), g_hi_a (by omega)]
    omega
theorem CK_0 : CK mm_M0 := fun _ _ => rfl
theorem CK_new {M : mm_M} {c n k : Nat} (h : CK M) : CK (mm_new M c n k) := h
theorem cw_A : (cw_r 600 39 109 [.ref 0] fr_1a).isSome = true := by decide +kernel
theorem cw_B : (cw_r 2000 39 146 [.ref 77] fr_2a).isSome = true := by decide +kernel
theorem CK_A : CK fr_A := CK_m cw_A (CK_new CK_0)
theorem CK_B : CK fr_B := CK_m cw_B (CK_new CK_A)
theorem CK_M : CK cr_M := CK_new CK_B
noncomputable def fs_t (M : mm_M) : Bool := Nat.beq M.1.1.1 126 && (List.range 126).all fun a => Nat.beq (M.1.1.2.1 a) (g_ty a) && Nat.beq (M.1.1.2.2 a) (g_ln a)
noncomputable def fs_r (M : mm_M) : Bool := (List.range 126).all fun a => (List.range 81).all fun i => match g_rf a i with
  | none => true
  | some v => decide (M.2.2.2 a i = some v)
noncomputable def fs_c (M : mm_M) : Bool := decide (M.2.1 79 69 = 32) && (decide (g_lo 49 0 ≤ (M.2.1 49 0).toInt ∧ (M.2.1 49 0).toInt ≤ g_hi 49 0) && decide (g_lo 58 0 ≤ (M.2.1 58 0).toInt ∧ (M.2.1 58 0).toInt ≤ g_hi 58 0) && decide (g_lo 77 11 ≤ (M.2.1 77 11).toInt ∧ (M.2.1 77 11).toInt ≤ g_hi 77 11) && decide (g_lo 77 14 ≤ (M.2.1 77 14).toInt ∧ (M.2.1 77 14).toInt ≤ g_hi 77 14)) && (decide (M.2.1 77 13 = 0) && decide (M.2.1 77 29 = 0) && decide (M.2.1 77 58 = 0) && decide (M.2.1 77 57 = 0)) && ((List.range 6).all fun j => decide (M.2.1 100 j = 0)) && (decide (0 ≤ (M.2.1 77 28).toInt) && decide ((M.2.1 77 7).toInt ≤ (M.2.1 77 6).toInt) && decide ((M.2.1 1 1).toInt = (M.2.1 77 1).toInt))
noncomputable def fs_q (M : mm_M) : Bool := decide (M.2.2.2 0 8 = some 49) && decide (M.2.2.2 0 9 = some 58) && decide (M.2.2.2 0 10 = some 67) && decide (M.2.2.2 0 11 = some 72)
noncomputable def fs_k (M : mm_M) : Bool := Nat.ble M.1.2.1 126 && Nat.ble M.1.2.2.1 7628
theorem fs_tM : fs_t cr_M = true := by decide +kernel
theorem fs_cM : fs_c cr_M = true := by decide +kernel
theorem fs_qM : fs_q cr_M = true := by decide +kernel
theorem fs_kM : fs_k cr_M = true := by decide +kernel
theorem fs_rM : fs_r cr_M = true := by decide +kernel
theorem fs_G {M : mm_M} (hC : CK M) (ht : fs_t M = true) (hr : fs_r M = true) (hc : fs_c M = true) : g_G M := by
  unfold fs_t at ht
  unfold fs_c at hc
  simp only [Bool.and_eq_true, decide_eq_true_eq] at ht hc
  obtain ⟨⟨⟨⟨c0, ⟨⟨c1, c2⟩, c3⟩, c4⟩, -⟩, -⟩, -⟩ := hc
  refine ⟨⟨Nat.eq_of_beq_eq_true ht.1, fun a ha => ?_, fun a i v hv => ?_⟩, fun a i => ?_, c0⟩
  · have z := List.all_eq_true.mp ht.2 a (List.mem_range.mpr ha)
    rw [Bool.and_eq_true] at z
    exact ⟨Nat.eq_of_beq_eq_true z.1, Nat.eq_of_beq_eq_true z.2⟩
  · have ha : a < 126 := by
      by_cases g : a < 126
      · exact g
      · rw [g_rf_a (by omega)] at hv; cases hv
    by_cases hi : i < 81
    · have z := List.all_eq_true.mp (List.all_eq_true.mp hr a (List.mem_range.mpr ha)) i (List.mem_range.mpr hi)
      rw [hv] at z
      simp only [decide_eq_true_eq] at z
      exact z
    · exfalso
      have z : (List.range 126).all (fun a => (g_rf a 80).isNone) = true := by decide +kernel
      have z2 := List.all_eq_true.mp z a (List.mem_range.mpr ha)
      rw [g_rf_i (by omega)] at hv
      rw [hv] at z2
      cases z2
  · have z := hC a i
    unfold cw_o at z
    rw [Bool.or_eq_true, Bool.and_eq_true, Bool.and_eq_true, decide_eq_true_eq, decide_eq_true_eq, decide_eq_true_eq] at z
    rcases z with z | z
    · rcases bx_0 a i with y | y
      · unfold bx_c at y
        simp only [Bool.or_eq_true, Bool.and_eq_true] at y
        rcases y with ((y | y) | y) | y
        · rw [Nat.eq_of_beq_eq_true y.1, Nat.eq_of_beq_eq_true y.2]; exact c1
        · rw [Nat.eq_of_beq_eq_true y.1, Nat.eq_of_beq_eq_true y.2]; exact c2
        · rw [Nat.eq_of_beq_eq_true y.1, Nat.eq_of_beq_eq_true y.2]; exact c3
        · rw [Nat.eq_of_beq_eq_true y.1, Nat.eq_of_beq_eq_true y.2]; exact c4
      · rw [z]; exact y
    · exact ⟨z.1.2, z.2⟩
theorem fs_n {M : mm_M} (hC : CK M) {a : Nat} (h : cw_n a = true) (i : Nat) : (M.2.1 a i).toInt = 0 := by
  have z := hC a i
  unfold cw_o at z
  rw [Bool.or_eq_true, decide_eq_true_eq, h] at z
  rcases z with z | z
  · rw [z]; rfl
  · cases z
theorem fs_L {M : mm_M} (hC : CK M) (ht : fs_t M = true) (hr : fs_r M = true) (hc : fs_c M = true) (hq : fs_q M = true) : LI M := by
  have hG := fs_G hC ht hr hc
  unfold fs_c at hc
  unfold fs_q at hq
  simp only [Bool.and_eq_true, decide_eq_true_eq] at hc hq
  obtain ⟨⟨⟨⟨-, -⟩, ⟨⟨c1, c2⟩, c3⟩, c4⟩, c5⟩, ⟨c6, c7⟩, c8⟩ := hc
  obtain ⟨⟨⟨q1, q2⟩, q3⟩, q4⟩ := hq
  have n0 : (0 : Int32).toInt = 0 := rfl
  refine ⟨hG, ⟨fun i => ?_, fun i => ?_, fun i => ?_, ⟨49, 58, 67, 72, Or.inl rfl, Or.inr rfl, Or.inl rfl, Or.inr rfl, q1, q2, q3, q4⟩⟩, ⟨fun i => ?_, fun w _ hl => ?_, NJ_0 (by rw [c2]; rfl), PS_0 (fun j hj => ?_) c6, KQ_0 (by rw [c3]; rfl) (by rw [c4]; rfl)⟩, c7, c8⟩
  · rw [fs_n hC (a := 52) rfl, fs_n hC (a := 53) rfl, fs_n hC (a := 61) rfl, fs_n hC (a := 62) rfl]; omega
  · rw [fs_n hC (a := 7) rfl, fs_n hC (a := 8) rfl, fs_n hC (a := 9) rfl]; omega
  · rw [fs_n hC (a := 68) rfl, fs_n hC (a := 69) rfl, fs_n hC (a := 73) rfl, fs_n hC (a := 74) rfl]; omega
  · rw [fs_n hC (a := 81) rfl, fs_n hC (a := 82) rfl, fs_n hC (a := 83) rfl, fs_n hC (a := 84) rfl]; omega
  · rw [c1, n0] at hl; omega
  · have z := List.all_eq_true.mp c5 j (List.mem_range.mpr hj)
    rw [decide_eq_true_eq] at z
    exact z
theorem LI_M : LI cr_M := fs_L CK_M fs_tM fs_rM fs_cM fs_qM
theorem w9_c : ((List.range 70).all (fun i => decide (cr_M.2.1 79 i = x_w79.getD i 0)) && decide (cr_M.2.1 1 1 = 0)) = true := by decide +kernel
theorem LI3_M : LI3 cr_M := by
  have h := w9_c
  rw [Bool.and_eq_true, decide_eq_true_eq] at h
  refine ⟨LI_M, TP_0 (by rw [h.2]; decide), fun i hi => ?_⟩
  have z := List.all_eq_true.mp h.1 i (List.mem_range.mpr hi)
  rw [decide_eq_true_eq] at z
  rw [z]
  rfl
theorem ne_c : (decide (cr_M.2.2.2 0 8 ≠ cr_M.2.2.2 0 9) && decide (cr_M.2.1 0 12 = cr_M.2.1 77 28)) = true := by decide +kernel
theorem LI4_M : LI4 cr_M := by
  have h := ne_c
  rw [Bool.and_eq_true, decide_eq_true_eq, decide_eq_true_eq] at h
  exact ⟨LI3_M, h.1, by rw [h.2]⟩
theorem al_c : (decide (cr_M.2.2.2 0 8 = some 49) && decide ((cr_M.2.1 49 0).toInt = 10) && decide ((cr_M.2.1 49 2).toInt = 0) && decide ((cr_M.2.1 49 3).toInt = 0) && decide ((cr_M.2.1 77 11).toInt = 10) && decide ((cr_M.2.1 77 12).toInt = 0) && decide ((cr_M.2.1 77 13).toInt = 0) && decide (cr_M.2.1 17 4 = cr_M.2.1 77 41) && (List.range 10).all (fun j => decide (cr_M.2.1 88 j = fr_S.getD j 0 ∧ cr_M.2.1 89 j = fr_P.getD j 0))) = true := by decide +kernel
theorem AL_M : TPl cr_M x_s0 ∧ PLk2 cr_M x_s0 := by
  have h := al_c
  simp only [Bool.and_eq_true, decide_eq_true_eq] at h
  obtain ⟨⟨⟨⟨⟨⟨⟨⟨h1, h2⟩, h3⟩, h4⟩, h5⟩, h6⟩, h7⟩, h8⟩, h9⟩ := h
  refine ⟨⟨49, Or.inl rfl, h1, ⟨⟨x_G_0, h2, h3, h4, fun r k _ _ g => ?_, fun r k _ _ g => ?_⟩, CW_0⟩⟩, ⟨⟨x_G_0, h5, h6, h7, fun r k _ _ g => ?_, fun r k _ _ g => ?_⟩, CWk_0⟩⟩
  · have g : (k : Int) < 0 := g
    omega
  · have g : (k : Int) < 0 := g
    omega
  · have g : (k : Int) < 0 := g
    omega
  · have g : (k : Int) < 0 := g
    omega
theorem LI7_M : LI7 cr_M := by
  have h := al_c
  simp only [Bool.and_eq_true, decide_eq_true_eq] at h
  obtain ⟨⟨⟨⟨⟨⟨⟨⟨h1, h2⟩, h3⟩, h4⟩, h5⟩, h6⟩, h7⟩, h8⟩, h9⟩ := h
  refine ⟨⟨⟨LI4_M, ⟨x_s0, AL_M⟩⟩, by rw [h8]⟩, fun j hj => ?_⟩
  have z := List.all_eq_true.mp h9 j (List.mem_range.mpr hj)
  rw [decide_eq_true_eq] at z
  exact z
theorem nn_c : decide (cr_M.2.1 6 0 = cr_M.2.1 77 29) = true := by decide +kernel
theorem LI8_M : LI8 cr_M := ⟨LI7_M, by rw [of_decide_eq_true nn_c]⟩
theorem n0_c : decide ((cr_M.2.1 6 0).toInt = 0) = true := by decide +kernel
theorem LI9_M : LI9 cr_M := by
  have e := of_decide_eq_true n0_c
  refine ⟨LI8_M, x_s0, AL_M, ?_, ?_⟩
  · rw [e]; exact fun k hk => by omega
  · rw [e]; exact fun k hk => by omega
end
section
/-! A THROW whose class calls its super by another constant than 7 (the library's ctorThrowS has 7): the library's way for the classes above it, for platforms without stack traces -/
section LX
/-- the class's own constructor by the constant ix, those above it as the library has them -/
noncomputable def lk_chA (X Y : String) (ix : Nat) (rx : ByteArray) (r : List String) : List Cond := Bundle.passSAtoms X Y ix rx ++ Bundle.chainSAtoms Y r
theorem lk_chain {args : Array Value} {s : State} {pl : Platform} (hpl : pl.magicAccessors = ({} : Platform).magicAccessors) {top : MethodId} (htop : s.methodNamed? (Bundle.initS Bundle.tN) = some top)
    {ix : Nat} {rx : ByteArray} (x0 : decode rx 0 = .ok (.aload_n 0, 1)) (x1 : decode rx 1 = .ok (.aload_n 1, 1)) (x2 : decode rx 2 = .ok (.invokespecial ix, 3)) (x5 : decode rx 5 = .ok (.return_, 1)) {X Y : String} {r : List String}
    (hX : Bundle.fit X = true) (hn : ∀ n ∈ Y :: r, Bundle.fit n = true) (h : ∀ c ∈ lk_chA X Y ix rx r, c.before args s = true) :
    ∃ (P1 : PassC) (Ps : List PassC), Ps.length = (Y :: r).length ∧ P1.LinksS pl s ∧ (∀ P, P ∈ Ps → P.LinksS pl s) ∧ s.methodNamed? (Bundle.initS X) = some P1.m ∧ P1.sup = firstOf top (Ps.map (·.toPassT)) ∧ PassesOn top (Ps.map (·.toPassT)) := by
  obtain ⟨P, L, hm, hs⟩ := PassC.ofS_atoms (args := args) (s := s) hpl (X := X) (Y := Y) (Bundle.fit_spec hX).1 (Bundle.fit_spec (hn Y List.mem_cons_self)).2 x0 x1 x2 x5 (fun c hc => h c (List.mem_append.mpr (Or.inl hc)))
  obtain ⟨P2, Ps, hlen, L2, hL, hm2, hsup, hpass⟩ := Bundle.chainS (args := args) hpl htop r Y (hn Y List.mem_cons_self) (fun n hz => hn n (List.mem_cons_of_mem _ hz)) (fun c hc => h c (List.mem_append.mpr (Or.inr hc)))
  refine ⟨P, P2 :: Ps, congrArg (· + 1) hlen, L, fun Q hQ => ?_, hm, Option.some.inj (hs.symm.trans hm2), hsup, hpass⟩
  rcases List.mem_cons.mp hQ with rfl | hQ
  · exact L2
  · exact hL Q hQ
/-- what the throw wants of the tables -/
noncomputable def lk_own (own : String) (ic : Nat) (X Y : String) (ix : Nat) (rx : ByteArray) (r : List String) : List Cond :=
  lk_chA X Y ix rx r ++ (Bundle.throwableAtoms ++ (Bundle.throwableSAtoms ++
  ([.methodLink own ic (Bundle.initS X), .instantiable X 6, .castable X X, .selects X Bundle.tFill0 Bundle.tFill0, .selects X Bundle.tFill Bundle.tFill] ++
   ([("cause", "Ljava/lang/Throwable;"), ("stackTrace", Bundle.steD), ("suppressedExceptions", Bundle.listD), ("detailMessage", "Ljava/lang/String;"), ("backtrace", "Ljava/lang/Object;")].map (fun z => Cond.lays X Bundle.tN z.1 z.2) ++
   [.isRef (.static Bundle.tN "UNASSIGNED_STACK" Bundle.steD), .isRef (.static Bundle.tN "SUPPRESSED_SENTINEL" Bundle.listD), .fieldLink Bundle.tN 198 Bundle.tN "backtrace" "Ljava/lang/Object;", .lays Bundle.tN Bundle.tN "backtrace" "Ljava/lang/Object;"]))))
variable {p : Program} {l : Launch} {e : Env} {R : Room} {s : State} {m₀ : MethodId} {args : Array Value} {below : List Frame} {meth : Method} {c : Code} {W : State} {locs : List Loc} {cells slots : Nat}
set_option maxHeartbeats 1000000 in
theorem lk_ctorX (X : Stand p l e R s m₀ args below meth c W locs cells slots) (hexec : p.tables.exec = Jvm.exec) (htr : e.platform.stackTraces = false) {own cls up : String} {r : List String} {ic : Nat}
    {ix : Nat} {rx : ByteArray} (x0 : decode rx 0 = .ok (.aload_n 0, 1)) (x1 : decode rx 1 = .ok (.aload_n 1, 1)) (x2 : decode rx 2 = .ok (.invokespecial ix, 3)) (x5 : decode rx 5 = .ok (.return_, 1)) (hown : s.vm.findClass own = some m₀.cls) (hcls : Bundle.fit cls = true) (hnames : ∀ n ∈ up :: r, Bundle.fit n = true)
    (h : ∀ a ∈ lk_own own ic cls up ix rx r, a.before args s = true)
    (hlocs : ∀ x ∈ locs, ∀ cell, s.heap[x.base]? = some cell → cell.vm.isStatics = false)
    {a : Addr} {cX : ClassId} {kX : Class} (hfoundX : s.vm.findClass cls = some cX) (hkX : s.vm.classes[cX]? = some kX) (hcell : W.heap[a]? = some (freshCell cX kX)) (hnew : s.heap.size ≤ a)
    {msg : Value} (hmsg : msg.isRef = true)
    {g : JFrame} (hg : g.method = m₀) (hsize : g.locals.size = c.maxLocals) (hlocked : g.locked = none) (hentered : g.entered = []) {rest : List Value} (hstack : g.stack = msg :: .ref a :: .ref a :: rest)
    (hd6 : decode c.code g.pc = .ok (.invokespecial ic, 3)) (hd9 : decode c.code (g.pc + 3) = .ok (.athrow, 1)) (hout : ∀ x ∈ c.exceptionTable.toList, covers x (g.pc + 3) = false)
    (hRframes : (up :: r).length + 3 < R.frames) (hRlocals : 2 * g.monitorRoom + ((Value.ref a :: rest).map fun v => v.category).sum + (13 * ((up :: r).length + 1) + 42) ≤ R.locals) (hlocks : meth.locks = false := by first | assumption | exact BodyLoose.notSynchronized (by assumption) | exact Body.notSynchronized (by assumption)) :
    ∃ U : State, Steps p.tables e below (W.setTop g) U ∧ U.status = .running ∧ Ended U below (.threw a) ∧ s.WarmedH U.vm ∧ s.sameButNew ({ U with vm := s.vm } : State) locs cells slots ∧
      ∃ ce, U.heap[a]? = some ce ∧ s.vm.findClass cls = some ce.cls ∧ ce.vm = .none := by
  have howns : e.platform.frameOwnsMonitors = true := by rw [X.admits.platform]
  have hfin : e.platform.finalization = false := by rw [X.admits.platform]
  have hpl : e.platform.magicAccessors = ({} : Platform).magicAccessors := by rw [X.admits.platform]
  have a' : ∀ x, x ∈ lk_own own ic cls up ix rx r → x.holds args s none s [] = true := fun x hx => h x hx
  obtain ⟨T, Z0, L, -, Y⟩ := ThrowableC.of_atoms (args := args) howns hfin hpl (fun x hx => h x (by simp [lk_own, hx]))
  obtain ⟨Z, M, LZ, LM, hnZ⟩ := Init0T.ofS_atoms (args := args) hpl L Y (fun x hx => h x (by simp [lk_own, hx]))
  obtain ⟨P1, Ps, hlen, L1, hL, hP1m, hlink1, hlink⟩ := lk_chain (args := args) hpl hnZ x0 x1 x2 x5 (X := cls) (Y := up) (r := r) hcls hnames (fun x hx => h x (by simp [lk_own, hx]))
  have hfound : s.vm.findClass cls = some P1.m.cls := findClass_of_methodNamed hP1m
  cases Option.some.inj (hfoundX.symm.trans hfound)
  obtain ⟨c1, kX', hc1, hk, hord, -, -, hn6⟩ := Cond.instantiable_spec (a' (.instantiable cls 6) (by simp [lk_own]))
  cases Option.some.inj (hc1.symm.trans hfound)
  cases Option.some.inj (hkX.symm.trans hk)
  have hsel0 : selectMethod e.platform s.vm P1.m.cls T.fill0 = .method T.fill0 := by
    obtain ⟨c2, r2, m2, q1, q2, q3, q4, -⟩ := Cond.selects_spec (a' (.selects cls Bundle.tFill0 Bundle.tFill0) (by simp [lk_own]))
    cases Option.some.inj (q1.symm.trans hfound)
    cases Option.some.inj (q2.symm.trans (State.methodFound?_of_named Y.fill0 (by decide)))
    cases Option.some.inj (q3.symm.trans Y.fill0)
    rw [Launch.admits_selectMethod X.admits]; exact q4
  have hselF : selectMethod e.platform s.vm P1.m.cls T.fill = .method T.fill := by
    obtain ⟨c2, r2, m2, q1, q2, q3, q4, -⟩ := Cond.selects_spec (a' (.selects cls Bundle.tFill Bundle.tFill) (by simp [lk_own]))
    cases Option.some.inj (q1.symm.trans hfound)
    cases Option.some.inj (q2.symm.trans (State.methodFound?_of_named Y.fill (by decide)))
    cases Option.some.inj (q3.symm.trans Y.fill)
    rw [Launch.admits_selectMethod X.admits]; exact q4
  obtain ⟨cellS0, hcS0, hiss⟩ := Y.statics
  obtain ⟨u0, hu0⟩ := Cond.staticRefV Y.unassigned L.unassignedStatic L.statics hcS0 hiss (a' (.isRef (.static Bundle.tN "UNASSIGNED_STACK" Bundle.steD)) (by simp [lk_own]))
  obtain ⟨sen, hsen⟩ := Cond.staticRefV Y.sentinel L.sentinelStatic L.statics hcS0 hiss (a' (.isRef (.static Bundle.tN "SUPPRESSED_SENTINEL" Bundle.listD)) (by simp [lk_own]))
  obtain ⟨ci198, i198, fB, hk198, hg198, ha198, hsB, -, hnB, htB, hffB⟩ := Cond.ownField (t := .object "java/lang/Object") Y.found L.cls (by decide +kernel) (a' (.fieldLink Bundle.tN 198 Bundle.tN "backtrace" "Ljava/lang/Object;") (by simp [lk_own])) (a' (.lays Bundle.tN Bundle.tN "backtrace" "Ljava/lang/Object;") (by simp [lk_own])) e.platform hpl
  obtain ⟨cellS, hcS', heS, -, hkeep⟩ := X.same.2.2.2.2.2 T.aS cellS0 hcS0
  have hcellS : W.heap[T.aS]? = some cellS := hcS'
  have hout' : ∀ i, (⟨T.aS, i⟩ : Loc) ∉ locs := fun i hmem => by
    have := hlocs _ hmem cellS0 hcS0
    rw [hiss] at this; cases this
  have hknownS : cellS.vm ≠ .unknown := by
    rw [heS]; intro hu
    rw [show cellS0.vm = .unknown from hu] at hiss
    cases hiss
  have hneS : T.aS ≠ a := Nat.ne_of_lt (Nat.lt_of_lt_of_le (Array.getElem?_eq_some_iff.mp hcS0).1 hnew)
  obtain ⟨iM, hffM⟩ := Y.msg
  obtain ⟨tyC, dC, hdC, hdnC⟩ := Cond.laysAt hfound hk Y.cause (a' (.lays cls Bundle.tN "cause" "Ljava/lang/Throwable;") (by simp [lk_own]))
  obtain ⟨tyS, dS, hdS, hdnS⟩ := Cond.laysAt hfound hk Y.stack (a' (.lays cls Bundle.tN "stackTrace" Bundle.steD) (by simp [lk_own]))
  obtain ⟨tyP, dP, hdP, hdnP⟩ := Cond.laysAt hfound hk Y.supp (a' (.lays cls Bundle.tN "suppressedExceptions" Bundle.listD) (by simp [lk_own]))
  obtain ⟨tyM, dM, hdM, hdnM⟩ := Cond.laysAt hfound hk hffM (a' (.lays cls Bundle.tN "detailMessage" "Ljava/lang/String;") (by simp [lk_own]))
  obtain ⟨tyB, dB, hdB, hdnB⟩ := Cond.laysAt hfound hk hffB (a' (.lays cls Bundle.tN "backtrace" "Ljava/lang/Object;") (by simp [lk_own]))
  have bC := Cond.laysApart hdB hdC hdnB hdnC (by rw [hnB, Y.causeName]; decide)
  have bS := Cond.laysApart hdB hdS hdnB hdnS (by rw [hnB, Y.stackName]; decide)
  have bP := Cond.laysApart hdB hdP hdnB hdnP (by rw [hnB, Y.suppName]; decide)
  have hskip : SkipFacts T e.platform s (fun u => u) u0 ((preparedCellV T.toThrowableT (freshCell P1.m.cls kX) a u0 sen).withEntry W.cur) :=
    ⟨{ ci198 := ci198, i198 := i198, fBack := fB }, ⟨hk198, hg198, ha198, hsB⟩, by
      have := fresh_default (c := P1.m.cls) tyB
      rw [htB] at this
      simpa [preparedCellV, Cell.setSlot, Cell.withEntry, Array.getElem?_setIfInBounds, bC, bS, bP, bC.symm, bS.symm, bP.symm, defaultValue] using this, fun _ _ => rfl⟩
  obtain ⟨tm, methC, cdC, kC, vm₁, hnC, -, -, -, -, -, -, -, hW₁, st1⟩ := Steps.initColdS (tb := p.tables) (e := e) (below := below) (s := s) (U := W) X.here hexec X.warmed hpl hown (t := Bundle.initS cls) rfl rfl (Bundle.fit_spec hcls).2
    (a' (.methodLink own ic (Bundle.initS cls)) (by simp [lk_own])) (h (.instanceMethod (Bundle.initS cls)) (by simp [lk_own, lk_chA, Bundle.passSAtoms])) (bytes := rx) (maxL := 2) (h (.code (Bundle.initS cls) rx 2 none) (by simp [lk_own, lk_chA, Bundle.passSAtoms]))
    (f := g) hg (a := a) (msg := msg) (rest := .ref a :: rest) hstack hd6
  cases Option.some.inj (hnC.symm.trans hP1m)
  have X₁ := X.noted hW₁
  obtain ⟨vm₂, X₂, st2⟩ := X₁.ctorMessageOffV hexec (g := { g with stack := .ref a :: rest }) hg hsize T L Z LZ M LM (P1 :: Ps)
    (fun P hP => by rcases List.mem_cons.mp hP with rfl | hP; exact L1; exact hL P hP) ⟨hlink1, hlink⟩ (u0 := u0) (sen := sen) (self := a) hmsg (cell := freshCell P1.m.cls kX) (cellS := cellS)
    hcell (fun _ => by simp) (by simp) rfl rfl hsel0 hselF hcellS hneS hknownS (by rw [hkeep _ (hout' _)]; exact hu0) (by rw [hkeep _ (hout' _)]; exact hsen)
    (Takes.of_laid hk hord tyC (by rw [Y.causeType]; rfl)) (Takes.of_laid hk hord tyS (by rw [Y.stackType]; exact fits_refV_array _ u0)) (Takes.of_laid hk hord tyP (by rw [Y.suppType]; exact fits_refV_object _ sen))
    (Takes.of_laid hk hord tyM (by rw [Y.msgType]; exact fits_refV_object _ ⟨msg, hmsg⟩)) Y.objLocals hskip htr [] hd6
    (by simp only [List.length_cons, hlen]; omega) (by simp only [List.length_cons, hlen]; exact hRlocals)
  obtain ⟨hwalk, hrun, hended, hWU, hsame⟩ := X₂.athrowLeaves hexec (g := { g with stack := .ref a :: rest, pc := g.pc + 3 }) hg hlocked hentered hout (a := a) (rest := rest) rfl hd9
  have hlt : a < ((W.setVm vm₁).setVm vm₂).heap.size := (Array.getElem?_eq_some_iff.mp hcell).1
  have hU := heapAt_setCell_self (s := (W.setVm vm₁).setVm vm₂) (plainBareV T.toThrowableT (freshCell P1.m.cls kX) a u0 sen msg) hlt
  refine ⟨_, st1 _ (fun acts => ?_), hrun, hended, hWU, hsame.weaken (fun y hy hlt' => ?_) (Nat.le_refl _) (Nat.le_refl _), _, hU, hfound, rfl⟩
  · rw [doInvoke_state]
    exact st2 _ hwalk
  · rcases List.mem_append.mp hy with h1 | h1
    · exact h1
    · exfalso
      have hb : y.base = a := by
        simp only [List.mem_cons, List.not_mem_nil, or_false] at h1
        rcases h1 with rfl | rfl | rfl | rfl | rfl <;> rfl
      rw [hb] at hlt'
      exact Nat.not_lt.mpr hnew hlt'
end LX
noncomputable def vx_atX (own : String) (ic : Nat) (X : String) (ix : Nat) (rx : ByteArray) (Y : String) (r : List String) : List Cond := (lk_own own ic X Y ix rx r).filter vx_no
section LY
variable {p : Program} {l : Launch} {e : Env} {R : Room} {s : State} {m : MethodId} {args : Array Value} {below : List Frame} {meth : Method} {c : Code} {H : Heap} {locs : List Loc} {cells slots : Nat} {Q : State → Prop}
variable {mc ms : Nat} {free : Addr → Prop} {A0 A1 : Nat → Prop} {H0 : Heap} {a : Array Value} {ls : Array Slot} {st0 rest : List Value}
variable {Qc : Array Value → State → Outcome → State → Prop} {XC : String → State → State → Prop}
theorem vx_throwSX {cc : ByteArray} {pc : Nat} (hexec : p.tables.exec = Jvm.exec) (hb : c.code = cc) (hl : l.stackTraces = false) {own cls text up : String} {r : List String} {ik is ic mc ms sa ix : Nat} {rx : ByteArray} (x0 : decode rx 0 = .ok (.aload_n 0, 1)) (x1 : decode rx 1 = .ok (.aload_n 1, 1)) (x2 : decode rx 2 = .ok (.invokespecial ix, 3)) (x5 : decode rx 5 = .ok (.return_, 1)) {A : Nat → Prop}
    (hown : s.vm.findClass own = some m.cls) (hcls : Bundle.fit cls = true) (hnames : ∀ n ∈ up :: r, Bundle.fit n = true)
    (hk : (Cond.classLink own ik cls).before args s = true) (hini : (Cond.initialized cls).before args s = true) (hstr : vk_R own is text sa s) (hat : ∀ w ∈ vx_atX own ic cls ix rx up r, w.before args s = true)
    (hgood : ∀ w ∈ Cond.classLink own ik cls :: Cond.initialized cls :: vx_atX own ic cls ix rx up r, vx_ot w = true)
    (hU : vx_Zq Bundle.tN "UNASSIGNED_STACK" Bundle.steD A s s.heap) (hN : vx_Zq Bundle.tN "SUPPRESSED_SENTINEL" Bundle.listD A s s.heap) (hS : va_S A s.heap H locs) (hsize : ls.size = c.maxLocals)
    (d0 : decode cc pc = .ok (.new ik, 3)) (d3 : decode cc (pc + 3) = .ok (.dup, 1)) (d4 : decode cc (pc + 4) = .ok (.ldc is, 2)) (d6 : decode cc (pc + 6) = .ok (.invokespecial ic, 3)) (d9 : decode cc (pc + 9) = .ok (.athrow, 1))
    (hout : ∀ x ∈ c.exceptionTable.toList, covers x (pc + 9) = false)
    (hRframes : (up :: r).length + 3 < R.frames) (hRlocals : (rest.map fun v => v.category).sum + (13 * ((up :: r).length + 1) + 43) ≤ R.locals) (hRcells : cells + 1 ≤ R.cells) (hRslots : slots + 6 ≤ R.slots) (hlocks : meth.locks = false)
    (hx : ∀ t : State, s.vm.Alike t.vm → H.size ≤ t.heap.size → (∀ q : Nat, q < H.size → t.heap[q]? = H[q]?) → XC cls s t)
    (hf : ∀ z ∈ locs, free z.base) (hc : cells + 1 ≤ mc) (hs : slots + 6 ≤ ms) :
    W p l e R s m args below meth c H locs cells slots (vx_MQ below Qc XC args s mc ms free) (F0 m pc ls rest) := by
  intro T hT X
  have htr : e.platform.stackTraces = false := (show e.platform.stackTraces = l.stackTraces by rw [X.admits.platform]).trans hl
  have Y := vx_rebase X (R' := { frames := R.frames, locals := R.locals, cells := 1, slots := 6 }) (Nat.le_refl _) (Nat.le_refl _) hRcells hRslots
  obtain ⟨s', hA⟩ : ∃ z, z = (T.setVm s.vm).setFrames (.invoking m args :: below) := ⟨_, rfl⟩
  rw [← hA] at Y
  have hvm : s'.vm = s.vm := by rw [hA]; rfl
  have hhp : s'.heap = H := by rw [hA]; exact hT
  have hW0 : s.WarmedH s'.vm := by rw [hvm]; exact State.WarmedH.refl s
  have hat' : ∀ w ∈ vx_atX own ic cls ix rx up r, w.before args s' = true := fun w hw => vx_ot_at hW0 hvm.symm (hgood w (List.mem_cons_of_mem _ (List.mem_cons_of_mem _ hw))) (hat w hw)
  have hk' : (Cond.classLink own ik cls).before args s' = true := vx_ot_at hW0 hvm.symm (hgood _ List.mem_cons_self) hk
  have hini' : (Cond.initialized cls).before args s' = true := vx_ot_at hW0 hvm.symm (hgood _ (List.mem_cons_of_mem _ List.mem_cons_self)) hini
  have hU' : vx_Zq Bundle.tN "UNASSIGNED_STACK" Bundle.steD A s' s'.heap := by rw [hhp]; exact vx_Zq.moved hW0.alike (hU.kept hS.2.1)
  have hN' : vx_Zq Bundle.tN "SUPPRESSED_SENTINEL" Bundle.listD A s' s'.heap := by rw [hhp]; exact vx_Zq.moved hW0.alike (hN.kept hS.2.1)
  have h : ∀ w ∈ lk_own own ic cls up ix rx r, w.before args s' = true := vx_own hat' (vx_isRefq hU'.1) (vx_isRefq hN'.1) hU'.2.word hN'.2.word
  have hown' : s'.vm.findClass own = some m.cls := by rw [hvm]; exact hown
  have hins : (Cond.instantiable cls 6).before args s' = true := h _ (by simp [lk_own])
  obtain ⟨vm₁, cX, kX, hfX, hkX, -, -, X₁, st1⟩ := Y.newCold hexec (own := own) (C := cls) (index := ik) (n := 6) hown' hk' hins hini'
    (g := F0 m pc ls rest) rfl (by rw [hb]; exact d0) (Nat.le_refl _) (Nat.le_refl _)
  generalize hT1 : (T.setVm vm₁).pushCell { cls := cX, slots := kX.instanceTypes.map defaultValue, vm := .none } = T1 at X₁ st1
  have hcat : (Value.ref T.heap.size).category = 1 := rfl
  have hcellA : T1.heap[T.heap.size]? = some (freshCell cX kX) := by rw [← hT1]; exact State.heap_pushCell_size _ _
  have d3' : decode c.code (pc + 3) = .ok (.dup, 1) := by rw [hb]; exact d3
  have d4' : decode c.code (pc + 4) = .ok (.ldc is, 2) := by rw [hb]; exact d4
  have hstr' : vk_R own is text sa s' := vk_R.warm hW0 hstr
  obtain ⟨U, hsteps, hrun, hend, hW, hsame, ce, hce, hO, hOv⟩ := lk_ctorX X₁ hexec htr (ix := ix) (rx := rx) x0 x1 x2 x5 (own := own) (cls := cls) (up := up) (r := r) (ic := ic) hown' hcls hnames h (fun x hx => nomatch hx) hfX hkX hcellA (by rw [hhp, hT]; exact Nat.le_refl _) (msg := .ref sa) rfl
    (g := { method := m, pc := pc + 6, locals := ls, stack := .ref sa :: .ref T.heap.size :: .ref T.heap.size :: rest, locked := none }) rfl hsize rfl rfl (rest := rest) rfl
    (by rw [hb]; exact d6) (by rw [hb]; exact d9) hout hRframes (by simp only [List.map_cons, List.sum_cons, hcat]; omega) hlocks
  obtain ⟨f1, f2⟩ := vx_frame hsame
  rw [hhp] at f1 f2
  have hWs : s.WarmedH U.vm := State.WarmedH.trans hW0 hW
  have hcl : s.vm.findClass cls = some ce.cls := by
    have h9 := hO
    rw [hvm] at h9
    exact h9
  have hall : s.sameButNew ({ U with vm := s.vm } : State) locs mc ms := by
    subst hA
    obtain ⟨e1, e2⟩ := hsame
    rw [State.setFrames_setFrames] at e1
    have h2 : (T.setVm s.vm).sameButNew ({ U with vm := s.vm } : State) [] (0 + 1) (0 + 6) := ⟨e1, e2⟩
    have h3 := X.same.trans h2
    rw [List.append_nil] at h3
    exact h3.mono hc hs
  refine ⟨U, ?_, .threw T.heap.size, hrun, hend, Or.inr ⟨T.heap.size, rfl, cls, ce, locs, hx U hWs.alike f1 (fun q hq => f2 q hq (fun z hz => nomatch hz)), hce, hOv, hcl, hWs, hall, hf⟩⟩
  refine st1 _ ?_
  show Steps p.tables e below (T1.setTop { method := m, pc := pc + 3, locals := ls, stack := .ref T.heap.size :: rest, locked := none }) _
  jvm_step X₁.here [X₁.here.top, hexec, d3', Value.category]
  exact X₁.ldcString hexec (own := own) (text := text) (index := is) (a := sa) hown' hstr'.1 hstr'.2
    (g := { method := m, pc := pc + 4, locals := ls, stack := .ref T.heap.size :: .ref T.heap.size :: rest, locked := none }) rfl d4' _ hsteps
end LY
/-! LOOK: what it throws -/
noncomputable def lk_nm : List String := ["java/lang/RuntimeException", "java/lang/Exception"]
theorem lk_ngI : ∀ w ∈ (vx_atS RX10 157 lk_I lk_nm).filter (fun w => !goodWord w), w ∈ ng_ws := by decide +kernel
theorem lk_otI : ∀ w ∈ Cond.classLink RX10 153 lk_I :: Cond.initialized lk_I :: vx_atS RX10 157 lk_I lk_nm, vx_ot w = true := by decide +kernel
theorem lk_gdI : ∀ w ∈ Cond.classLink RX10 153 lk_I :: Cond.initialized lk_I :: (vx_atS RX10 157 lk_I lk_nm).filter goodWord, w ∈ lw_tbl ∧ goodWord w = true := by decide +kernel
theorem lk_ont : ∀ w ∈ ng_ws, w.onTables = true := by decide +kernel
theorem lk_fit : Bundle.fit lk_I = true ∧ ∀ n ∈ lk_nm, Bundle.fit n = true := by decide +kernel
theorem lk_ml : Cond.methodLink RL 7 (mm_y 248) ∈ lw_tbl := by decide +kernel
theorem lk_cl : Cond.classLink RL 13 lk_I ∈ lw_tbl := by decide +kernel
theorem lk_dI : decode (mm_cc 248) 11 = .ok (.new 153, 3) ∧ decode (mm_cc 248) 14 = .ok (.dup, 1) ∧ decode (mm_cc 248) 15 = .ok (.ldc 155, 2) ∧ decode (mm_cc 248) 17 = .ok (.invokespecial 157, 3) ∧ decode (mm_cc 248) 20 = .ok (.athrow, 1) := by decide +kernel
theorem lk_dL : (decode cL_look 0 = .ok (.aload_n 3, 1) ∧ decode cL_look 1 = .ok (.iconst 0, 1) ∧ decode cL_look 2 = .ok (.aload_n 0, 1) ∧ decode cL_look 3 = .ok (.iload_n 1, 1) ∧ decode cL_look 4 = .ok (.iload_n 2, 1) ∧ decode cL_look 5 = .ok (.invokevirtual 7, 3)) ∧ decode cL_look 13 = .ok (.astore 4, 2) ∧ decode cL_look 15 = .ok (.iconst 1, 1) ∧ decode cL_look 16 = .ok (.ireturn, 1) := by decide +kernel
/-- a contract out of a body with handlers that always returns -/
theorem Met_ofWH {l : Launch} {y : MethodName} {ws ws' : List Cond} {rm : Room} {Pc : Array Value → State → Prop} {Qc : Array Value → State → Outcome → State → Prop} {mc ms : Nat} {free : Addr → Prop} {cc : ByteArray} {maxL : Nat} {ret : Option FieldType} {hh : List (Nat × Nat × Nat × Nat)}
    (hy : plainName y.cls = true) (hw : ws = Cond.codeWith y cc maxL ret hh :: ws')
    (body : ∀ p e s m args below meth c s₁, BodyLoose p l y (headSpec ws rm) cc maxL ret e s m args below meth c s₁ → c.maxLocals = maxL → Pc args s →
      W p l e (headSpec ws rm).room s m args below meth c s.heap [] 0 0 (MQ below Qc args s mc ms free) (entryFrame m args maxL)) : Met l y ws rm Pc Qc mc ms free := by
  refine MetFree.of_bodyS (code := cc) (maxLocals := maxL) (ret := ret) hy ?_ ?_
  · intro args s m h hn
    obtain ⟨m9, meth, c, hn9, h1, h2, h3, h4, -, h5, h6, -⟩ := Cond.codeWith_spec (atoms_spec (ws := ws) h _ (by rw [hw]; exact List.mem_cons_self))
    cases hn.symm.trans hn9
    exact ⟨meth, c, h1, h2, h3, h4, h5, h6⟩
  · intro p e s m args below meth c s₁ B hml hP _
    have hh0 : s₁.heap = s.heap := by rw [B.state]; rfl
    obtain ⟨t, a1, o, b1, b2, b3⟩ := body p e s m args below meth c s₁ B hml hP s₁ hh0 (Stand.of_body B)
    exact ⟨t, o, a1, b1, b2, b3⟩
/-- no such FIELD -/
theorem lk_isF {X : mm_X} {d p : Nat} {f : Int32} {M : mm_M} (hp : mm_isObj M p 5 = true) (hf : f < 0 ∨ M.2.1 p 2 ≤ f) : ∃ n, mm_run X n d 43 0 (mm_entry 43 [.ref p, .int f]) [] M = some (some (.int 0), M) := by
  have hz : mm_T X d 43 16 [.ref p, .int f] [] M (fun r M1 => r = some (.int 0) ∧ M1 = M) := by
    refine tt_1 (q := (.iconst 0, 1, 0, 0, [])) rfl ?_
    refine tt_1 (q := (.ireturn, 1, 1, 0, [])) (pc := 17) rfl ?_
    show (if (mm_i 0 0 = 0 ∨ mm_i 0 0 = 1) then (some (Value.int (mm_i 0 0)) = some (.int 0) ∧ M = M) else False)
    rw [if_pos (show (mm_i 0 0 = 0 ∨ mm_i 0 0 = 1) from Or.inl rfl)]
    exact ⟨rfl, rfl⟩
  have h : mm_T X d 43 0 [.ref p, .int f] [] M (fun r M1 => r = some (.int 0) ∧ M1 = M) := by
    refine tt_1 (q := (.iload_n 1, 1, 0, 0, [])) rfl ?_
    refine tt_if (pc := 1) (c := .lt) (o := 15) (len := 3) (a := 16) (b := 0) (ps := []) rfl ?_
    show (if f < 0 then _ else _)
    by_cases h0 : f < 0
    · rw [if_pos h0]; exact hz
    · rw [if_neg h0]
      have h1 : M.2.1 p 2 ≤ f := hf.resolve_left h0
      refine tt_1 (q := (.iload_n 1, 1, 0, 0, [])) (pc := 4) rfl ?_
      refine tt_1 (q := (.aload_n 0, 1, 0, 0, [])) (pc := 5) rfl ?_
      refine tt_gI (pc := 6) (i := 44) (len := 3) (a := 5) (b := 2) (ps := [11]) rfl hp rfl ?_
      refine tt_ic (pc := 9) (c := .ge) (o := 7) (len := 3) (a := 16) (b := 0) (ps := []) rfl ?_
      show (if M.2.1 p 2 ≤ f then _ else _)
      rw [if_pos h1]
      exact hz
  obtain ⟨n, r, M1, h1, rfl, rfl⟩ := h
  exact ⟨n, h1⟩
theorem rl.mark {D : va_G} {s t : State} {B : Nat} {M : mm_M} {H H1 : Heap} (h : rl D s B M H) (hv : s.vm.Alike t.vm) (h1 : H.size ≤ H1.size) (h2 : ∀ q : Nat, q < H.size → H1[q]? = H[q]?) : rl D t B (mm_mark M) H1 := by
  obtain ⟨⟨g1, -, g3⟩, g4, g5, g6⟩ := h
  refine ⟨⟨Nat.le_trans g1 h1, fun z => (by cases z), g3⟩, fun a ha => ?_, g5, g6⟩
  have ha' : a < M.1.1.1 := ha
  exact (((g4 a ha').kept (h2 _ (by omega))).moved hv).to rfl rfl (fun _ => rfl) (fun _ => rfl) (fun _ => rfl)
noncomputable def lk_XC (D : va_G) (B : Nat) (M : mm_M) : String → State → State → Prop := fun E9 st t => E9 = lk_I ∧ rl D t B (mm_mark M) t.heap ∧ st.heap.size ≤ t.heap.size ∧ ∀ q : Nat, q < B → t.heap[q]? = st.heap[q]?
set_option maxHeartbeats 2000000 in
theorem lk_m10 {l : Launch} (hl0 : l.stackTraces = false) {D : va_G} {E : Nat → Nat} {X : mm_X} {B x p : Nat} {f w : Int32} {M : mm_M} (hx : mm_isObj M x 10 = true) (hp : M.2.2.2 x 8 = some p) (h5 : mm_isObj M p 5 = true) (hf : f < 0 ∨ M.2.1 p 2 ≤ f) :
    vx_Met l (mm_y 248) (ws_y 248) (rm_d 8 1 6) (sn_Pc D E X B M [.ref x, .int f, .int w]) (fun _ _ _ _ => False) (lk_XC D B M) 1 6 (rl_A B) := by
  obtain ⟨hmw, hcls, -, -⟩ := me_at (y := 248) (by decide) (by decide)
  have hon := on_at (ow_lt (mi := 248) (by decide))
  refine vx_ofW (cc := mm_cc 248) (maxL := mm_mx 248) (ret := mm_rt 248) (by rw [hcls]; exact hon.1) rfl ?_
  intro p' e s m args below meth c s₁ Bd hml htab hv
  obtain ⟨rfl, hrl, hE, hK, hB⟩ := hv
  have hts0 := atoms_spec (ws := ws_y 248) Bd.pre
  have hts : ∀ w' ∈ lw_tbl, goodWord w' = true → w'.before ([Value.ref x, .int f, .int w].map (mm_tr B E)).toArray s = true := fun w' h1 h2 => hts0 w' (List.mem_cons_of_mem _ (ws_in h1 h2))
  have hown : s.vm.findClass (mm_on (mm_ow 248)) = some m.cls := by rw [← hcls]; exact findClass_of_methodNamed Bd.named
  have hC : sn_C D E X B p' s m ([Value.ref x, .int f, .int w].map (mm_tr B E)).toArray meth c 248 := ⟨Bd.exec, Bd.bytes, hml, hown, hts, (fun h9 => by cases h9), hK, hE, hB, by decide⟩
  have hl2 := (sn_entry (B := B) (E := E) (y := 248) (as := [.ref x, .int f, .int w]) rfl (show 3 ≤ mm_mx 248 by decide)).2
  rw [lg_entry_eq]
  have hlocks := Bd.notSynchronized
  have he : mm_entry 248 [.ref x, .int f, .int w] = [.ref x, .int f, .int w] := rfl
  rw [he] at hl2
  have hI : sn_I D B s M.1.2.1 M.1.2.2.1 M s.heap [] 0 0 := ⟨hrl, va_S.rf, rfl, rfl⟩
  have hRm : (headSpec (ws_y 248) (rm_d 8 1 6)).room = rm_d 8 1 6 := rfl
  rw [hRm]
  have hcell : M.1.2.1 ≤ M.1.2.1 + (rm_d 8 1 6).cells ∧ M.1.2.2.1 ≤ M.1.2.2.1 + (rm_d 8 1 6).slots := ⟨Nat.le_add_right _ _, Nat.le_add_right _ _⟩
  refine sn_one (st := []) (pc := 0) (q := (.aload_n 0, 1, 0, 0, [])) hC rfl hI hl2 (by decide) (by decide) (fun o => o = .inl (1, [.ref x, .int f, .int w], [.ref x], M)) rfl (fun pc' ls' st' M' eo => ?_) (fun o eo => nomatch eo)
  cases eo
  refine ⟨hcell, fun H1 locs1 lsA1 cells1 slots1 hI hl2 => ?_⟩
  refine sn_one (pc := 1) (q := (.getfield 68, 3, 10, 8, [3, 18])) hC rfl hI hl2 (by decide) (by decide) (fun o => o = .inl (4, [.ref x, .int f, .int w], [.ref p], M)) (by
    show mm_b (mm_isObj M x 10) (mm_gO (M.2.2.2 x 8) (fun v => (Sum.inl (4, [Value.ref x, .int f, .int w], [Value.ref v], M) : mm_O) = .inl (4, [.ref x, .int f, .int w], [.ref p], M)) False) False
    rw [hx, hp]
    exact (rfl : (Sum.inl (4, [Value.ref x, .int f, .int w], [Value.ref p], M) : mm_O) = _)) (fun pc' ls' st' M' eo => ?_) (fun o eo => nomatch eo)
  cases eo
  refine ⟨hcell, fun H1 locs1 lsA1 cells1 slots1 hI hl2 => ?_⟩
  refine sn_one (pc := 4) (q := (.iload_n 1, 1, 0, 0, [])) hC rfl hI hl2 (by decide) (by decide) (fun o => o = .inl (5, [.ref x, .int f, .int w], [.int f, .ref p], M)) rfl (fun pc' ls' st' M' eo => ?_) (fun o eo => nomatch eo)
  cases eo
  refine ⟨hcell, fun H1 locs1 lsA1 cells1 slots1 hI hl2 => ?_⟩
  obtain ⟨n, hn⟩ := lk_isF (X := X) (d := 5) h5 hf
  refine sn_call (pc := 5) (q := (.invokevirtual 150, 3, 43, 2, [55, 0])) (idx := 150) (as := [.ref p, .int f]) (rest := []) (sn_run n) hC hI (by rw [← hl2.2.1]) (mm_ck_all 248 5 _ rfl) (Or.inl rfl) rfl (by decide) (by decide) (by
    show (true && mm_isObj M p 5) = true
    rw [h5]; rfl) hn ⟨by decide, by decide, hcell.1, hcell.2⟩ (fun H1 locs1 cells1 slots1 hI => ?_)
  refine sn_one (st := [.int 0]) (pc := 8) (q := (.ifCond .ne 13, 3, 21, 0, [])) hC rfl hI hl2 (by decide) (by decide) (fun o => o = .inl (11, [.ref x, .int f, .int w], [], M)) rfl (fun pc' ls' st' M' eo => ?_) (fun o eo => nomatch eo)
  cases eo
  refine ⟨hcell, fun H1 locs1 lsA1 cells1 slots1 hI hl2 => ?_⟩
  obtain ⟨d1, d2, d3, d4, d5⟩ := lk_dI
  obtain ⟨-, -, -, -, hU, hN, hng, ⟨sa, hsa⟩, -⟩ := hE
  have c0 := hI.2.2.1
  have s0 := hI.2.2.2
  refine vx_throwS (cc := mm_cc 248) (pc := 11) (own := RX10) (cls := lk_I) (text := "no such field") (names := lk_nm) (ik := 153) (is := 155) (ic := 157) (sa := sa) (A := rl_A B) (rest := []) Bd.exec Bd.bytes hl0 hown lk_fit.1 lk_fit.2
    (hts _ (lk_gdI _ List.mem_cons_self).1 (lk_gdI _ List.mem_cons_self).2) (hts _ (lk_gdI _ (List.mem_cons_of_mem _ List.mem_cons_self)).1 (lk_gdI _ (List.mem_cons_of_mem _ List.mem_cons_self)).2) hsa
    (vx_hat (fun w' h9 => hts w' (lk_gdI w' (List.mem_cons_of_mem _ (List.mem_cons_of_mem _ h9))).1 (lk_gdI w' (List.mem_cons_of_mem _ (List.mem_cons_of_mem _ h9))).2) lk_ngI (fun w' h9 => va_Nw.use (lk_ont w' h9) (hng w' h9))) lk_otI hU hN hI.2.1 (by rw [hml, ← hl2.2.1]) d1 d2 d3 d4 d5 (fun z hz => (htab z hz).elim) (by decide) (by decide) (by show cells1 + 1 ≤ 1; omega) (by show slots1 + 6 ≤ 6; omega) hlocks ?_ hI.2.1.2.2 (by omega) (by omega)
  intro t hv h1 h2
  refine ⟨rfl, hI.1.mark hv h1 h2, Nat.le_trans hI.2.1.1 h1, fun q hq => ?_⟩
  rw [h2 q (by have := hI.2.1.1; omega)]
  exact hI.2.1.2.1 q (by omega) (Nat.not_le.mpr hq)
set_option maxHeartbeats 2000000 in
theorem lk_law {l : Launch} (hl0 : l.stackTraces = false) {D : va_G} {E : Nat → Nat} {X : mm_X} {B x o p : Nat} {f w : Int32} {M : mm_M} (hx : mm_isObj M x 10 = true) (hp : M.2.2.2 x 8 = some p) (h5 : mm_isObj M p 5 = true) (hf : f < 0 ∨ M.2.1 p 2 ≤ f) :
    Met l yL_look (.codeWith yL_look cL_look 5 (some .int) [(0, 10, 13, 13), (0, 10, 17, 15)] :: ws_all) (rm_d 10 1 6) (sn_Pc D E X B M [.ref x, .int f, .int w, .ref o]) (sn_Qc D E B (some (.int 1)) (mm_mark M)) 1 6 (rl_A B) := by
  refine Met_ofWH (cc := cL_look) (maxL := 5) (ret := some .int) (hh := [(0, 10, 13, 13), (0, 10, 17, 15)]) (by decide +kernel) rfl ?_
  intro p' e s m args below meth c s₁ Bd hml hv
  obtain ⟨rfl, hrl, hE, hK, hB⟩ := hv
  obtain ⟨as, has⟩ : ∃ as : Array Value, as = ([Value.ref x, .int f, .int w, .ref o].map (mm_tr B E)).toArray := ⟨_, rfl⟩
  have hts0 := atoms_spec Bd.pre
  have hts : ∀ w' ∈ lw_tbl, goodWord w' = true → w'.before ([Value.ref x, .int f, .int w, .ref o].map (mm_tr B E)).toArray s = true := fun w' h1 h2 => hts0 w' (List.mem_cons_of_mem _ (ws_in h1 h2))
  have htab := vx_table (x := yL_look) Bd (hts0 _ List.mem_cons_self)
  have hown : s.vm.findClass RL = some m.cls := findClass_of_methodNamed Bd.named
  have hl2 := (sn_entry (B := B) (E := E) (y := 3) (as := [.ref x, .int f, .int w, .ref o]) rfl (show 4 ≤ mm_mx 3 by decide)).2
  rw [lg_entry_eq]
  have hlocks := Bd.notSynchronized
  have hmx : mm_mx 3 = 5 := rfl
  rw [hmx] at hl2
  have he : mm_entry 3 [.ref x, .int f, .int w, .ref o] = [.ref x, .int f, .int w, .ref o, .null] := rfl
  rw [he] at hl2
  have hex := Bd.exec
  have hby := Bd.bytes
  obtain ⟨⟨d0, d1, d2, d3, d4, d5⟩, d13, d15, d16⟩ := lk_dL
  have hRm : (headSpec (Cond.codeWith yL_look cL_look 5 (some .int) [(0, 10, 13, 13), (0, 10, 17, 15)] :: ws_all) (rm_d 10 1 6)).room = rm_d 10 1 6 := rfl
  rw [hRm]
  refine lv_aload_n (i := 3) hex hby d0 rfl (hl2.r (k := 3) rfl) ?_
  refine lv_iconst (pc := 1) hex hby d1 rfl ?_
  refine lv_aload_n (i := 0) (pc := 2) hex hby d2 rfl (hl2.r (k := 0) rfl) ?_
  refine lv_iload_n (i := 1) (pc := 3) hex hby d3 rfl (hl2.i (k := 1) rfl) ?_
  refine lv_iload_n (i := 2) (pc := 4) hex hby d4 rfl (hl2.i (k := 2) rfl) ?_
  have hxa : mm_ad B E x = B + x := hrl.ext (mm_isObj_P hx).1 E
  rw [hxa]
  obtain ⟨hmw, hcls, -, hpd⟩ := me_at (y := 248) (by decide) (by decide)
  have hon := on_at (ow_lt (mi := 248) (by decide))
  have hcode := hts _ (hmw _ List.mem_cons_self) rfl
  have hw1 : ∀ w' ∈ ws_y 248, ∀ (a' : Array Value) (U : State), s.WarmedH U.vm → w'.before a' U = true := fun w' hw a' U hW => by
    rcases List.mem_cons.mp hw with rfl | hw
    · exact word_at hW (good_of_word (w := Cond.code (mm_y 248) (mm_cc 248) (mm_mx 248) (mm_rt 248)) rfl) hcode
    · exact word_at hW (good_of_word (ws_good hw).2) (hts _ (ws_good hw).1 (ws_good hw).2)
  have hini := hts _ (hmw (Cond.initialized (mm_on (mm_ow 248))) (List.mem_cons_of_mem _ List.mem_cons_self)) rfl
  rw [← hcls] at hini
  have hin := hts _ (hmw (Cond.instanceMethod (mm_y 248)) (List.mem_cons_of_mem _ (List.mem_cons_of_mem _ List.mem_cons_self))) rfl
  have hse := hts _ (hmw (Cond.selects (mm_on (mm_ow 248)) (mm_y 248) (mm_y 248)) (List.mem_cons_of_mem _ (List.mem_cons_of_mem _ (List.mem_cons_of_mem _ List.mem_cons_self)))) rfl
  have hrec : ∃ cellB : Cell, s.heap[B + x]? = some cellB ∧ cellB.vm.isStatics = false ∧ s.vm.findClass (mm_on (mm_ow 248)) = some cellB.cls := by
    obtain ⟨g1, g2⟩ := mm_isObj_P hx
    obtain ⟨-, -, h3, -, -⟩ := cl_at (c := 10) (by decide)
    have hKn := hK.1 10 _ h3
    obtain ⟨cell, q1, q2, q3, -⟩ := (hrl.2.1 x g1).2.2.2.2.2 (by rw [g2]; decide)
    rw [g2] at q2
    exact ⟨cell, q1, by rw [q3]; rfl, by rw [q2]; exact hKn.2.1⟩
  have hpv : PreV s s.heap (mm_on (mm_ow 248)) (B + x) (sn_Pc D E X B M [.ref x, .int f, .int w]) [.int f, .int w] := ⟨sn_blind, hrec, fun U hU hW => ⟨by
    show [Value.ref (B + x), .int f, .int w].toArray = [Value.ref (mm_ad B E x), .int f, .int w].toArray
    rw [hxa], by rw [hU]; exact hrl.moved hW.alike, by rw [hU]; exact hE.warm hW, va_K.moved hW.alike hK, by rw [hU]; exact hB⟩⟩
  have hr := vx_runV (p := p') (e := e) (R := rm_d 10 1 6) (below := below) (meth := meth) (H := s.heap) (locs := []) (cells := 0) (slots := 0) (C := mm_on (mm_ow 248)) (own := RL) (index := 7) (bytes := mm_cc 248) (maxL := mm_mx 248) (ret := mm_rt 248) (n := 2) (nL := 5) (Ts := ws_all) (b := B + x) (As := [.int f, .int w]) (rest := [.int 0, .ref (mm_ad B E o)])
    (g := F0 m 5 ((lg_sl ([Value.ref x, .int f, .int w, .ref o].map (mm_tr B E)) ++ List.replicate (5 - (lg_sl ([Value.ref x, .int f, .int w, .ref o].map (mm_tr B E))).length) Slot.unset).toArray) [.int w, .int f, .ref (B + x), .int 0, .ref (mm_ad B E o)])
    ⟨hex, hby, hml, hown, fun w' hw => hts w' (ws_good hw).1 (ws_good hw).2⟩ (lk_m10 hl0 hx hp h5 hf) ⟨⟨rfl, rfl, by decide, by decide, hw1, List.mem_cons_self, hcode, hini, by rw [hcls]; exact hon.2, fun sig hs => by
      rw [hs] at hpd
      exact (Option.some.inj hpd).symm, hts _ lk_ml rfl⟩, hin, hse⟩ hpv rfl rfl hl2.2.1 rfl (lv_room (show 2 ≤ 8 by decide)) d5 ⟨Nat.le_refl _, Nat.le_refl _⟩
  intro T hT Xs
  rcases hr T hT Xs with ⟨v, st0, t, T', L, h0, X', hL, e1, e2, hq, st⟩ | ⟨q, st₀, t, T', L, E9, ce, h0, X', hL, e1, e2, ⟨rfl, hrl', hsz, hlow⟩, hce, hcv, hcl, st⟩
  · exact hq.elim
  · have hkk : W p' l e (rm_d 10 1 6) s m ([Value.ref x, .int f, .int w, .ref o].map (mm_tr B E)).toArray below meth c T'.heap ([] ++ L) (0 + 1) (0 + 6) (MQ below (sn_Qc D E B (some (.int 1)) (mm_mark M)) ([Value.ref x, .int f, .int w, .ref o].map (mm_tr B E)).toArray s 1 6 (rl_A B)) (F0 m 13 ((lg_sl ([Value.ref x, .int f, .int w, .ref o].map (mm_tr B E)) ++ List.replicate (5 - (lg_sl ([Value.ref x, .int f, .int w, .ref o].map (mm_tr B E))).length) Slot.unset).toArray) [.ref q]) := by
      refine lv_astore hex hby d13 hl2.2 (by decide) rfl (fun ls2 hl3 => ?_)
      refine lv_iconst (pc := 15) (v := 1) hex hby d15 rfl ?_
      refine W.iret hex hby Bd.returns ?_ (fun q hq => hL q (by simpa using hq)) d16
      intro t9 ht9 hW9
      refine ⟨rfl, ?_, fun q hq => ?_, ?_⟩
      · rw [ht9, e1]
        exact hrl'.moved ((by rw [← e2]; exact X'.warmed.alike.symm : t.vm.Alike s.vm).trans hW9.alike)
      · rw [ht9, e1, hlow q hq, h0]
      · rw [ht9, e1]
        rw [h0] at hsz
        exact hsz
    obtain ⟨t2, a1, b1⟩ := vx_catch (own := RL) (name := lk_I) (E := lk_I) (ce := ce) (q := q) (pc := 5) (rest := [.int 0, .ref (mm_ad B E o)]) hown [] ⟨0, 10, 13, 13⟩ [⟨0, 10, 17, 15⟩] htab (fun z hz => nomatch hz) (by decide) (by decide) (hts _ lk_cl rfl) (va_Nw.use rfl (hE.2.2.2.2.2.2.1 (.castable lk_I lk_I) (by decide +kernel))) (by rw [e1]; exact hce) hcv hcl hkk T' rfl X'
    exact ⟨t2, st.trans a1, b1⟩
/-- such a FIELD -/
theorem lk_isT {X : mm_X} {d p : Nat} {f : Int32} {M : mm_M} (hp : mm_isObj M p 5 = true) (hf : ¬ f < 0) (hf2 : ¬ M.2.1 p 2 ≤ f) : mm_T X d 43 0 [.ref p, .int f] [] M (fun r M1 => r = some (.int 1) ∧ M1 = M) := by
  refine tt_1 (q := (.iload_n 1, 1, 0, 0, [])) rfl ?_
  refine tt_if (pc := 1) (c := .lt) (o := 15) (len := 3) (a := 16) (b := 0) (ps := []) rfl ?_
  show (if f < 0 then _ else _)
  rw [if_neg hf]
  refine tt_1 (q := (.iload_n 1, 1, 0, 0, [])) (pc := 4) rfl ?_
  refine tt_1 (q := (.aload_n 0, 1, 0, 0, [])) (pc := 5) rfl ?_
  refine tt_gI (pc := 6) (i := 44) (len := 3) (a := 5) (b := 2) (ps := [11]) rfl hp rfl ?_
  refine tt_ic (pc := 9) (c := .ge) (o := 7) (len := 3) (a := 16) (b := 0) (ps := []) rfl ?_
  show (if M.2.1 p 2 ≤ f then _ else _)
  rw [if_neg hf2]
  refine tt_1 (q := (.iconst 1, 1, 1, 0, [])) (pc := 12) rfl ?_
  refine tt_1 (q := (.goto 4, 3, 17, 0, [])) (pc := 13) rfl ?_
  refine tt_1 (q := (.ireturn, 1, 1, 0, [])) (pc := 17) rfl ?_
  show (if (mm_i 1 0 = 0 ∨ mm_i 1 0 = 1) then (some (Value.int (mm_i 1 0)) = some (.int 1) ∧ M = M) else False)
  rw [if_pos (show (mm_i 1 0 = 0 ∨ mm_i 1 0 = 1) from Or.inr rfl)]
  exact ⟨rfl, rfl⟩
theorem lk_isT' {X : mm_X} {d p : Nat} {f : Int32} {M : mm_M} (hp : mm_isObj M p 5 = true) (hf : ¬ f < 0) (hf2 : ¬ M.2.1 p 2 ≤ f) : ∃ n, mm_run X n d 43 0 (mm_entry 43 [.ref p, .int f]) [] M = some (some (.int 1), M) := by
  obtain ⟨n, r, M1, h1, rfl, rfl⟩ := lk_isT (X := X) (d := d) hp hf hf2
  exact ⟨n, h1⟩
/-- the value told -/
theorem lk_run0 {X : mm_X} {x p q : Nat} {f w : Int32} {M : mm_M} (hx : mm_isObj M x 10 = true) (hp : M.2.2.2 x 8 = some p) (h5 : mm_isObj M p 5 = true) (hf : ¬ f < 0) (hf2 : ¬ M.2.1 p 2 ≤ f) (hw : w = 0 ∨ w = 1 ∨ w = 2 ∨ w = 3) (hq : M.2.2.2 p (6 + w.toNatClampNeg) = some q) (ho : mm_isObj M q 100 = true) (hn : f.toNatClampNeg < M.1.1.2.2 q) (he : Nat.ble mm_ext q = false) :
    ∃ n, mm_run X n 8 248 0 (mm_entry 248 [.ref x, .int f, .int w]) [] M = some (some (.int (M.2.1 q f.toNatClampNeg)), M) := by
  have h : mm_T X 8 248 0 [.ref x, .int f, .int w] [] M (fun r M1 => r = some (.int (M.2.1 q f.toNatClampNeg)) ∧ M1 = M) := by
    refine tt_1 (q := (.aload_n 0, 1, 0, 0, [])) rfl ?_
    refine tt_gR (pc := 1) (i := 68) (len := 3) (a := 10) (b := 8) (ps := [18]) rfl hx hp ?_
    refine tt_1 (q := (.iload_n 1, 1, 0, 0, [])) (pc := 4) rfl ?_
    refine to_v (d := 7) (pc := 5) (i := .invokevirtual 150) (len := 3) (y := 43) (n := 2) (ps := [55, 0]) (as := [.ref p, .int f]) (rest := []) (ls0 := [.ref p, .int f]) rfl rfl rfl (Nat.le_of_ble_eq_true rfl) (Nat.le_of_ble_eq_true rfl) rfl (by
      show (true && mm_isObj M p 5) = true
      rw [h5]; rfl) rfl ?_
    obtain ⟨n1, r1, M1, h1, rfl, rfl⟩ := lk_isT (X := X) (d := 7) h5 hf hf2
    refine ⟨n1, _, _, h1, ?_⟩
    refine to_ift (pc := 8) (c := .ne) (o := 13) (len := 3) (a := 21) (b := 0) (ps := []) rfl rfl ?_
    refine tt_1 (q := (.iload_n 2, 1, 0, 0, [])) (pc := 21) rfl ?_
    rcases hw with rfl | rfl | rfl | rfl
    · refine to_sw (pc := 22) (o := 70) (lo := 0) (hi := 3) (os := #[30, 40, 50, 60]) (len := 30) (a := 92) (b := 0) (ps := [52, 62, 72, 82]) (t := 52) rfl (by decide) rfl ?_
      refine tt_1 (q := (.aload_n 0, 1, 0, 0, [])) (pc := 52) rfl ?_
      refine tt_gR (pc := 53) (i := 68) (len := 3) (a := 10) (b := 8) (ps := [18]) rfl hx hp ?_
      refine tt_gR (pc := 56) (i := 160) (len := 3) (a := 5) (b := 6) (ps := [92]) rfl h5 hq ?_
      refine tt_1 (q := (.iload_n 1, 1, 0, 0, [])) (pc := 59) rfl ?_
      refine tt_ial (pc := 60) (len := 1) (a := 0) (b := 0) (ps := []) rfl he ho (fun z => z.elim hf (fun y => by omega)) rfl ?_
      exact to_r0 (pc := 61) (len := 1) (b := 0) (ps := []) rfl ⟨rfl, rfl⟩
    · refine to_sw (pc := 22) (o := 70) (lo := 0) (hi := 3) (os := #[30, 40, 50, 60]) (len := 30) (a := 92) (b := 0) (ps := [52, 62, 72, 82]) (t := 62) rfl (by decide) rfl ?_
      refine tt_1 (q := (.aload_n 0, 1, 0, 0, [])) (pc := 62) rfl ?_
      refine tt_gR (pc := 63) (i := 68) (len := 3) (a := 10) (b := 8) (ps := [18]) rfl hx hp ?_
      refine tt_gR (pc := 66) (i := 164) (len := 3) (a := 5) (b := 7) (ps := [85]) rfl h5 hq ?_
      refine tt_1 (q := (.iload_n 1, 1, 0, 0, [])) (pc := 69) rfl ?_
      refine tt_ial (pc := 70) (len := 1) (a := 0) (b := 0) (ps := []) rfl he ho (fun z => z.elim hf (fun y => by omega)) rfl ?_
      exact to_r0 (pc := 71) (len := 1) (b := 0) (ps := []) rfl ⟨rfl, rfl⟩
    · refine to_sw (pc := 22) (o := 70) (lo := 0) (hi := 3) (os := #[30, 40, 50, 60]) (len := 30) (a := 92) (b := 0) (ps := [52, 62, 72, 82]) (t := 72) rfl (by decide) rfl ?_
      refine tt_1 (q := (.aload_n 0, 1, 0, 0, [])) (pc := 72) rfl ?_
      refine tt_gR (pc := 73) (i := 68) (len := 3) (a := 10) (b := 8) (ps := [18]) rfl hx hp ?_
      refine tt_gR (pc := 76) (i := 167) (len := 3) (a := 5) (b := 8) (ps := [93]) rfl h5 hq ?_
      refine tt_1 (q := (.iload_n 1, 1, 0, 0, [])) (pc := 79) rfl ?_
      refine tt_ial (pc := 80) (len := 1) (a := 0) (b := 0) (ps := []) rfl he ho (fun z => z.elim hf (fun y => by omega)) rfl ?_
      exact to_r0 (pc := 81) (len := 1) (b := 0) (ps := []) rfl ⟨rfl, rfl⟩
    · refine to_sw (pc := 22) (o := 70) (lo := 0) (hi := 3) (os := #[30, 40, 50, 60]) (len := 30) (a := 92) (b := 0) (ps := [52, 62, 72, 82]) (t := 82) rfl (by decide) rfl ?_
      refine tt_1 (q := (.aload_n 0, 1, 0, 0, [])) (pc := 82) rfl ?_
      refine tt_gR (pc := 83) (i := 68) (len := 3) (a := 10) (b := 8) (ps := [18]) rfl hx hp ?_
      refine tt_gR (pc := 86) (i := 170) (len := 3) (a := 5) (b := 9) (ps := [68]) rfl h5 hq ?_
      refine tt_1 (q := (.iload_n 1, 1, 0, 0, [])) (pc := 89) rfl ?_
      refine tt_ial (pc := 90) (len := 1) (a := 0) (b := 0) (ps := []) rfl he ho (fun z => z.elim hf (fun y => by omega)) rfl ?_
      exact to_r0 (pc := 91) (len := 1) (b := 0) (ps := []) rfl ⟨rfl, rfl⟩
  obtain ⟨n, r, M1, h1, rfl, rfl⟩ := h
  exact ⟨n, h1⟩
/-- THE SECOND THROW: no such WHAT -/
noncomputable def lk_rx : ByteArray := ⟨#[0x2a, 0x2b, 0xb7, 0x00, 0x0d, 0xb1]⟩
theorem lk_rx0 : decode lk_rx 0 = .ok (.aload_n 0, 1) ∧ decode lk_rx 1 = .ok (.aload_n 1, 1) ∧ decode lk_rx 2 = .ok (.invokespecial 13, 3) ∧ decode lk_rx 5 = .ok (.return_, 1) := by decide +kernel
theorem lk_ngN : ∀ w ∈ (vx_atX RX10 177 lk_N 13 lk_rx "java/lang/RuntimeException" ["java/lang/Exception"]).filter (fun w => !goodWord w), w ∈ ng_ws := by decide +kernel
theorem lk_otN : ∀ w ∈ Cond.classLink RX10 173 lk_N :: Cond.initialized lk_N :: vx_atX RX10 177 lk_N 13 lk_rx "java/lang/RuntimeException" ["java/lang/Exception"], vx_ot w = true := by decide +kernel
theorem lk_gdN : ∀ w ∈ Cond.classLink RX10 173 lk_N :: Cond.initialized lk_N :: (vx_atX RX10 177 lk_N 13 lk_rx "java/lang/RuntimeException" ["java/lang/Exception"]).filter goodWord, w ∈ lw_tbl ∧ goodWord w = true := by decide +kernel
theorem lk_fitN : Bundle.fit lk_N = true := by decide +kernel
theorem lk_clN : Cond.classLink RL 15 lk_N ∈ lw_tbl := by decide +kernel
theorem lk_dN : decode (mm_cc 248) 92 = .ok (.new 173, 3) ∧ decode (mm_cc 248) 95 = .ok (.dup, 1) ∧ decode (mm_cc 248) 96 = .ok (.ldc 175, 2) ∧ decode (mm_cc 248) 98 = .ok (.invokespecial 177, 3) ∧ decode (mm_cc 248) 101 = .ok (.athrow, 1) := by decide +kernel
theorem lk_dL2 : (decode cL_look 8 = .ok (.i2l, 1) ∧ decode cL_look 9 = .ok (.lastore, 1) ∧ decode cL_look 10 = .ok (.goto 11, 3) ∧ decode cL_look 21 = .ok (.iconst 0, 1) ∧ decode cL_look 22 = .ok (.ireturn, 1)) ∧ decode cL_look 17 = .ok (.astore 4, 2) ∧ decode cL_look 19 = .ok (.iconst 2, 1) ∧ decode cL_look 20 = .ok (.ireturn, 1) := by decide +kernel
noncomputable def lk_XN (D : va_G) (B : Nat) (M : mm_M) : String → State → State → Prop := fun E9 st t => E9 = lk_N ∧ rl D t B (mm_mark M) t.heap ∧ st.heap.size ≤ t.heap.size ∧ ∀ q : Nat, q < B → t.heap[q]? = st.heap[q]?
theorem lk_w4 {w : Int32} (h : ¬ (w = 0 ∨ w = 1 ∨ w = 2 ∨ w = 3)) : w.toInt < 0 ∨ 3 < w.toInt := by
  by_cases h0 : w.toInt < 0
  · exact Or.inl h0
  · by_cases h1 : 3 < w.toInt
    · exact Or.inr h1
    · exfalso
      apply h
      rcases (show w.toInt = 0 ∨ w.toInt = 1 ∨ w.toInt = 2 ∨ w.toInt = 3 by omega) with z | z | z | z
      · exact Or.inl (Int32.toInt_inj.mp z)
      · exact Or.inr (Or.inl (Int32.toInt_inj.mp z))
      · exact Or.inr (Or.inr (Or.inl (Int32.toInt_inj.mp z)))
      · exact Or.inr (Or.inr (Or.inr (Int32.toInt_inj.mp z)))
set_option maxHeartbeats 2000000 in
theorem lk_m10N {l : Launch} (hl0 : l.stackTraces = false) {D : va_G} {E : Nat → Nat} {X : mm_X} {B x p : Nat} {f w : Int32} {M : mm_M} (hx : mm_isObj M x 10 = true) (hp : M.2.2.2 x 8 = some p) (h5 : mm_isObj M p 5 = true) (hf : ¬ f < 0) (hf2 : ¬ M.2.1 p 2 ≤ f) (hw : ¬ (w = 0 ∨ w = 1 ∨ w = 2 ∨ w = 3)) :
    vx_Met l (mm_y 248) (ws_y 248) (rm_d 8 1 6) (sn_Pc D E X B M [.ref x, .int f, .int w]) (fun _ _ _ _ => False) (lk_XN D B M) 1 6 (rl_A B) := by
  obtain ⟨hmw, hcls, -, -⟩ := me_at (y := 248) (by decide) (by decide)
  have hon := on_at (ow_lt (mi := 248) (by decide))
  refine vx_ofW (cc := mm_cc 248) (maxL := mm_mx 248) (ret := mm_rt 248) (by rw [hcls]; exact hon.1) rfl ?_
  intro p' e s m args below meth c s₁ Bd hml htab hv
  obtain ⟨rfl, hrl, hE, hK, hB⟩ := hv
  have hts0 := atoms_spec (ws := ws_y 248) Bd.pre
  have hts : ∀ w' ∈ lw_tbl, goodWord w' = true → w'.before ([Value.ref x, .int f, .int w].map (mm_tr B E)).toArray s = true := fun w' h1 h2 => hts0 w' (List.mem_cons_of_mem _ (ws_in h1 h2))
  have hown : s.vm.findClass (mm_on (mm_ow 248)) = some m.cls := by rw [← hcls]; exact findClass_of_methodNamed Bd.named
  have hC : sn_C D E X B p' s m ([Value.ref x, .int f, .int w].map (mm_tr B E)).toArray meth c 248 := ⟨Bd.exec, Bd.bytes, hml, hown, hts, (fun h9 => by cases h9), hK, hE, hB, by decide⟩
  have hl2 := (sn_entry (B := B) (E := E) (y := 248) (as := [.ref x, .int f, .int w]) rfl (show 3 ≤ mm_mx 248 by decide)).2
  rw [lg_entry_eq]
  have hlocks := Bd.notSynchronized
  have he : mm_entry 248 [.ref x, .int f, .int w] = [.ref x, .int f, .int w] := rfl
  rw [he] at hl2
  have hI : sn_I D B s M.1.2.1 M.1.2.2.1 M s.heap [] 0 0 := ⟨hrl, va_S.rf, rfl, rfl⟩
  have hRm : (headSpec (ws_y 248) (rm_d 8 1 6)).room = rm_d 8 1 6 := rfl
  rw [hRm]
  have hcell : M.1.2.1 ≤ M.1.2.1 + (rm_d 8 1 6).cells ∧ M.1.2.2.1 ≤ M.1.2.2.1 + (rm_d 8 1 6).slots := ⟨Nat.le_add_right _ _, Nat.le_add_right _ _⟩
  refine sn_one (st := []) (pc := 0) (q := (.aload_n 0, 1, 0, 0, [])) hC rfl hI hl2 (by decide) (by decide) (fun o => o = .inl (1, [.ref x, .int f, .int w], [.ref x], M)) rfl (fun pc' ls' st' M' eo => ?_) (fun o eo => nomatch eo)
  cases eo
  refine ⟨hcell, fun H1 locs1 lsA1 cells1 slots1 hI hl2 => ?_⟩
  refine sn_one (pc := 1) (q := (.getfield 68, 3, 10, 8, [3, 18])) hC rfl hI hl2 (by decide) (by decide) (fun o => o = .inl (4, [.ref x, .int f, .int w], [.ref p], M)) (by
    show mm_b (mm_isObj M x 10) (mm_gO (M.2.2.2 x 8) (fun v => (Sum.inl (4, [Value.ref x, .int f, .int w], [Value.ref v], M) : mm_O) = .inl (4, [.ref x, .int f, .int w], [.ref p], M)) False) False
    rw [hx, hp]
    exact (rfl : (Sum.inl (4, [Value.ref x, .int f, .int w], [Value.ref p], M) : mm_O) = _)) (fun pc' ls' st' M' eo => ?_) (fun o eo => nomatch eo)
  cases eo
  refine ⟨hcell, fun H1 locs1 lsA1 cells1 slots1 hI hl2 => ?_⟩
  refine sn_one (pc := 4) (q := (.iload_n 1, 1, 0, 0, [])) hC rfl hI hl2 (by decide) (by decide) (fun o => o = .inl (5, [.ref x, .int f, .int w], [.int f, .ref p], M)) rfl (fun pc' ls' st' M' eo => ?_) (fun o eo => nomatch eo)
  cases eo
  refine ⟨hcell, fun H1 locs1 lsA1 cells1 slots1 hI hl2 => ?_⟩
  obtain ⟨n, hn⟩ := lk_isT' (X := X) (d := 5) h5 hf hf2
  refine sn_call (pc := 5) (q := (.invokevirtual 150, 3, 43, 2, [55, 0])) (idx := 150) (as := [.ref p, .int f]) (rest := []) (sn_run n) hC hI (by rw [← hl2.2.1]) (mm_ck_all 248 5 _ rfl) (Or.inl rfl) rfl (by decide) (by decide) (by
    show (true && mm_isObj M p 5) = true
    rw [h5]; rfl) hn ⟨by decide, by decide, hcell.1, hcell.2⟩ (fun H1 locs1 cells1 slots1 hI => ?_)
  refine sn_one (st := [.int 1]) (pc := 8) (q := (.ifCond .ne 13, 3, 21, 0, [])) hC rfl hI hl2 (by decide) (by decide) (fun o => o = .inl (21, [.ref x, .int f, .int w], [], M)) rfl (fun pc' ls' st' M' eo => ?_) (fun o eo => nomatch eo)
  cases eo
  refine ⟨hcell, fun H1 locs1 lsA1 cells1 slots1 hI hl2 => ?_⟩
  refine sn_one (st := []) (pc := 21) (q := (.iload_n 2, 1, 0, 0, [])) hC rfl hI hl2 (by decide) (by decide) (fun o => o = .inl (22, [.ref x, .int f, .int w], [.int w], M)) rfl (fun pc' ls' st' M' eo => ?_) (fun o eo => nomatch eo)
  cases eo
  refine ⟨hcell, fun H1 locs1 lsA1 cells1 slots1 hI hl2 => ?_⟩
  refine sn_one (st := [.int w]) (pc := 22) (q := (.tableswitch 70 0 3 #[30, 40, 50, 60], 30, 92, 0, [52, 62, 72, 82])) hC rfl hI hl2 (by decide) (by decide) (fun o => o = .inl (92, [.ref x, .int f, .int w], [], M)) (by
    show (if w.toInt < 0 ∨ 3 < w.toInt then ((Sum.inl (92, [Value.ref x, .int f, .int w], [], M) : mm_O) = .inl (92, [.ref x, .int f, .int w], [], M)) else _)
    rw [if_pos (lk_w4 hw)]) (fun pc' ls' st' M' eo => ?_) (fun o eo => nomatch eo)
  cases eo
  refine ⟨hcell, fun H1 locs1 lsA1 cells1 slots1 hI hl2 => ?_⟩
  obtain ⟨d1, d2, d3, d4, d5⟩ := lk_dN
  obtain ⟨-, -, -, -, hU, hN, hng, -, ⟨sa, hsa⟩, -⟩ := hE
  have c0 := hI.2.2.1
  have s0 := hI.2.2.2
  refine vx_throwSX (cc := mm_cc 248) (pc := 92) (own := RX10) (cls := lk_N) (text := "no such what") (up := "java/lang/RuntimeException") (r := ["java/lang/Exception"]) (ik := 173) (is := 175) (ic := 177) (ix := 13) (rx := lk_rx) (sa := sa) (A := rl_A B) (rest := []) Bd.exec Bd.bytes hl0 lk_rx0.1 lk_rx0.2.1 lk_rx0.2.2.1 lk_rx0.2.2.2 hown lk_fitN lk_fit.2
    (hts _ (lk_gdN _ List.mem_cons_self).1 (lk_gdN _ List.mem_cons_self).2) (hts _ (lk_gdN _ (List.mem_cons_of_mem _ List.mem_cons_self)).1 (lk_gdN _ (List.mem_cons_of_mem _ List.mem_cons_self)).2) hsa
    (vx_hat (fun w' h9 => hts w' (lk_gdN w' (List.mem_cons_of_mem _ (List.mem_cons_of_mem _ h9))).1 (lk_gdN w' (List.mem_cons_of_mem _ (List.mem_cons_of_mem _ h9))).2) lk_ngN (fun w' h9 => va_Nw.use (lk_ont w' h9) (hng w' h9))) lk_otN hU hN hI.2.1 (by rw [hml, ← hl2.2.1]) d1 d2 d3 d4 d5 (fun z hz => (htab z hz).elim) (by decide) (by decide) (by show cells1 + 1 ≤ 1; omega) (by show slots1 + 6 ≤ 6; omega) hlocks ?_ hI.2.1.2.2 (by omega) (by omega)
  intro t hv h1 h2
  refine ⟨rfl, hI.1.mark hv h1 h2, Nat.le_trans hI.2.1.1 h1, fun q hq => ?_⟩
  rw [h2 q (by have := hI.2.1.1; omega)]
  exact hI.2.1.2.1 q (by omega) (Nat.not_le.mpr hq)
set_option maxHeartbeats 2000000 in
theorem lk_lawN {l : Launch} (hl0 : l.stackTraces = false) {D : va_G} {E : Nat → Nat} {X : mm_X} {B x o p : Nat} {f w : Int32} {M : mm_M} (hx : mm_isObj M x 10 = true) (hp : M.2.2.2 x 8 = some p) (h5 : mm_isObj M p 5 = true) (hf : ¬ f < 0) (hf2 : ¬ M.2.1 p 2 ≤ f) (hw : ¬ (w = 0 ∨ w = 1 ∨ w = 2 ∨ w = 3)) :
    Met l yL_look (.codeWith yL_look cL_look 5 (some .int) [(0, 10, 13, 13), (0, 10, 17, 15)] :: ws_all) (rm_d 10 1 6) (sn_Pc D E X B M [.ref x, .int f, .int w, .ref o]) (sn_Qc D E B (some (.int 2)) (mm_mark M)) 1 6 (rl_A B) := by
  refine Met_ofWH (cc := cL_look) (maxL := 5) (ret := some .int) (hh := [(0, 10, 13, 13), (0, 10, 17, 15)]) (by decide +kernel) rfl ?_
  intro p' e s m args below meth c s₁ Bd hml hv
  obtain ⟨rfl, hrl, hE, hK, hB⟩ := hv
  obtain ⟨as, has⟩ : ∃ as : Array Value, as = ([Value.ref x, .int f, .int w, .ref o].map (mm_tr B E)).toArray := ⟨_, rfl⟩
  have hts0 := atoms_spec Bd.pre
  have hts : ∀ w' ∈ lw_tbl, goodWord w' = true → w'.before ([Value.ref x, .int f, .int w, .ref o].map (mm_tr B E)).toArray s = true := fun w' h1 h2 => hts0 w' (List.mem_cons_of_mem _ (ws_in h1 h2))
  have htab := vx_table (x := yL_look) Bd (hts0 _ List.mem_cons_self)
  have hown : s.vm.findClass RL = some m.cls := findClass_of_methodNamed Bd.named
  have hl2 := (sn_entry (B := B) (E := E) (y := 3) (as := [.ref x, .int f, .int w, .ref o]) rfl (show 4 ≤ mm_mx 3 by decide)).2
  rw [lg_entry_eq]
  have hlocks := Bd.notSynchronized
  have hmx : mm_mx 3 = 5 := rfl
  rw [hmx] at hl2
  have he : mm_entry 3 [.ref x, .int f, .int w, .ref o] = [.ref x, .int f, .int w, .ref o, .null] := rfl
  rw [he] at hl2
  have hex := Bd.exec
  have hby := Bd.bytes
  obtain ⟨⟨d0, d1, d2, d3, d4, d5⟩, -⟩ := lk_dL
  obtain ⟨-, d13, d15, d16⟩ := lk_dL2
  have hRm : (headSpec (Cond.codeWith yL_look cL_look 5 (some .int) [(0, 10, 13, 13), (0, 10, 17, 15)] :: ws_all) (rm_d 10 1 6)).room = rm_d 10 1 6 := rfl
  rw [hRm]
  refine lv_aload_n (i := 3) hex hby d0 rfl (hl2.r (k := 3) rfl) ?_
  refine lv_iconst (pc := 1) hex hby d1 rfl ?_
  refine lv_aload_n (i := 0) (pc := 2) hex hby d2 rfl (hl2.r (k := 0) rfl) ?_
  refine lv_iload_n (i := 1) (pc := 3) hex hby d3 rfl (hl2.i (k := 1) rfl) ?_
  refine lv_iload_n (i := 2) (pc := 4) hex hby d4 rfl (hl2.i (k := 2) rfl) ?_
  have hxa : mm_ad B E x = B + x := hrl.ext (mm_isObj_P hx).1 E
  rw [hxa]
  obtain ⟨hmw, hcls, -, hpd⟩ := me_at (y := 248) (by decide) (by decide)
  have hon := on_at (ow_lt (mi := 248) (by decide))
  have hcode := hts _ (hmw _ List.mem_cons_self) rfl
  have hw1 : ∀ w' ∈ ws_y 248, ∀ (a' : Array Value) (U : State), s.WarmedH U.vm → w'.before a' U = true := fun w' hw a' U hW => by
    rcases List.mem_cons.mp hw with rfl | hw
    · exact word_at hW (good_of_word (w := Cond.code (mm_y 248) (mm_cc 248) (mm_mx 248) (mm_rt 248)) rfl) hcode
    · exact word_at hW (good_of_word (ws_good hw).2) (hts _ (ws_good hw).1 (ws_good hw).2)
  have hini := hts _ (hmw (Cond.initialized (mm_on (mm_ow 248))) (List.mem_cons_of_mem _ List.mem_cons_self)) rfl
  rw [← hcls] at hini
  have hin := hts _ (hmw (Cond.instanceMethod (mm_y 248)) (List.mem_cons_of_mem _ (List.mem_cons_of_mem _ List.mem_cons_self))) rfl
  have hse := hts _ (hmw (Cond.selects (mm_on (mm_ow 248)) (mm_y 248) (mm_y 248)) (List.mem_cons_of_mem _ (List.mem_cons_of_mem _ (List.mem_cons_of_mem _ List.mem_cons_self)))) rfl
  have hrec : ∃ cellB : Cell, s.heap[B + x]? = some cellB ∧ cellB.vm.isStatics = false ∧ s.vm.findClass (mm_on (mm_ow 248)) = some cellB.cls := by
    obtain ⟨g1, g2⟩ := mm_isObj_P hx
    obtain ⟨-, -, h3, -, -⟩ := cl_at (c := 10) (by decide)
    have hKn := hK.1 10 _ h3
    obtain ⟨cell, q1, q2, q3, -⟩ := (hrl.2.1 x g1).2.2.2.2.2 (by rw [g2]; decide)
    rw [g2] at q2
    exact ⟨cell, q1, by rw [q3]; rfl, by rw [q2]; exact hKn.2.1⟩
  have hpv : PreV s s.heap (mm_on (mm_ow 248)) (B + x) (sn_Pc D E X B M [.ref x, .int f, .int w]) [.int f, .int w] := ⟨sn_blind, hrec, fun U hU hW => ⟨by
    show [Value.ref (B + x), .int f, .int w].toArray = [Value.ref (mm_ad B E x), .int f, .int w].toArray
    rw [hxa], by rw [hU]; exact hrl.moved hW.alike, by rw [hU]; exact hE.warm hW, va_K.moved hW.alike hK, by rw [hU]; exact hB⟩⟩
  have hr := vx_runV (p := p') (e := e) (R := rm_d 10 1 6) (below := below) (meth := meth) (H := s.heap) (locs := []) (cells := 0) (slots := 0) (C := mm_on (mm_ow 248)) (own := RL) (index := 7) (bytes := mm_cc 248) (maxL := mm_mx 248) (ret := mm_rt 248) (n := 2) (nL := 5) (Ts := ws_all) (b := B + x) (As := [.int f, .int w]) (rest := [.int 0, .ref (mm_ad B E o)])
    (g := F0 m 5 ((lg_sl ([Value.ref x, .int f, .int w, .ref o].map (mm_tr B E)) ++ List.replicate (5 - (lg_sl ([Value.ref x, .int f, .int w, .ref o].map (mm_tr B E))).length) Slot.unset).toArray) [.int w, .int f, .ref (B + x), .int 0, .ref (mm_ad B E o)])
    ⟨hex, hby, hml, hown, fun w' hw => hts w' (ws_good hw).1 (ws_good hw).2⟩ (lk_m10N hl0 hx hp h5 hf hf2 hw) ⟨⟨rfl, rfl, by decide, by decide, hw1, List.mem_cons_self, hcode, hini, by rw [hcls]; exact hon.2, fun sig hs => by
      rw [hs] at hpd
      exact (Option.some.inj hpd).symm, hts _ lk_ml rfl⟩, hin, hse⟩ hpv rfl rfl hl2.2.1 rfl (lv_room (show 2 ≤ 8 by decide)) d5 ⟨Nat.le_refl _, Nat.le_refl _⟩
  intro T hT Xs
  rcases hr T hT Xs with ⟨v, st0, t, T', L, h0, X', hL, e1, e2, hq, st⟩ | ⟨q, st₀, t, T', L, E9, ce, h0, X', hL, e1, e2, ⟨rfl, hrl', hsz, hlow⟩, hce, hcv, hcl, st⟩
  · exact hq.elim
  · have hkk : W p' l e (rm_d 10 1 6) s m ([Value.ref x, .int f, .int w, .ref o].map (mm_tr B E)).toArray below meth c T'.heap ([] ++ L) (0 + 1) (0 + 6) (MQ below (sn_Qc D E B (some (.int 2)) (mm_mark M)) ([Value.ref x, .int f, .int w, .ref o].map (mm_tr B E)).toArray s 1 6 (rl_A B)) (F0 m 17 ((lg_sl ([Value.ref x, .int f, .int w, .ref o].map (mm_tr B E)) ++ List.replicate (5 - (lg_sl ([Value.ref x, .int f, .int w, .ref o].map (mm_tr B E))).length) Slot.unset).toArray) [.ref q]) := by
      refine lv_astore hex hby d13 hl2.2 (by decide) rfl (fun ls2 hl3 => ?_)
      refine lv_iconst (pc := 19) (v := 2) hex hby d15 rfl ?_
      refine W.iret hex hby Bd.returns ?_ (fun q hq => hL q (by simpa using hq)) d16
      intro t9 ht9 hW9
      refine ⟨rfl, ?_, fun q hq => ?_, ?_⟩
      · rw [ht9, e1]
        exact hrl'.moved ((by rw [← e2]; exact X'.warmed.alike.symm : t.vm.Alike s.vm).trans hW9.alike)
      · rw [ht9, e1, hlow q hq, h0]
      · rw [ht9, e1]
        rw [h0] at hsz
        exact hsz
    obtain ⟨t2, a1, b1⟩ := vx_catch (own := RL) (name := lk_N) (E := lk_N) (ce := ce) (q := q) (pc := 5) (rest := [.int 0, .ref (mm_ad B E o)]) hown [⟨0, 10, 13, 13⟩] ⟨0, 10, 17, 15⟩ [] htab (fun z hz => by
      cases List.mem_singleton.mp hz
      exact Or.inr ⟨by decide, lk_I, hts _ lk_cl rfl, hE.2.2.2.2.2.2.2.2.2⟩) (by decide) (by decide) (hts _ lk_clN rfl) (va_Nw.use rfl (hE.2.2.2.2.2.2.1 (.castable lk_N lk_N) (by decide +kernel))) (by rw [e1]; exact hce) hcv hcl hkk T' rfl X'
    exact ⟨t2, st.trans a1, b1⟩
/-- a long stored, in any method's code -/
theorem lk_last {p : Program} {l : Launch} {e : Env} {R : Room} {s : State} {m : MethodId} {args : Array Value} {below : List Frame} {meth : Method} {c : Code} {H : Heap} {locs : List Loc} {cells slots : Nat} {Q : State → Prop} {D : va_G} {B c0 s0 : Nat} {cc : ByteArray} {pc : Nat} {lsA : Array Slot} {rest : List Value} {M : mm_M} {a : Nat} {i : Int32} {x : Int64} (hx : p.tables.exec = Jvm.exec) (hb : c.code = cc) (hI : sn_I D B s c0 s0 M H locs cells slots) (ha : a < M.1.1.1) (ht : M.1.1.2.1 a = 101) (hin : ¬ (i < 0 ∨ M.1.1.2.2 a ≤ i.toNatClampNeg)) (hd : decode cc pc = .ok (.lastore, 1))
    (kk : ∀ (H1 : Heap) (locs1 : List Loc), sn_I D B s c0 s0 (mm_setL M a i.toNatClampNeg x) H1 locs1 cells slots → W p l e R s m args below meth c H1 locs1 cells slots Q (F0 m (pc + 1) lsA rest)) : W p l e R s m args below meth c H locs cells slots Q (F0 m pc lsA (.long x :: .int i :: .ref (B + a) :: rest)) := by
  obtain ⟨cA, hA, hc⟩ := (hI.1.2.1 a ha).2.1 ht
  refine W.last hx hb hc (hA _ _) (fun q => by cases q) (by rw [arrV_size]; exact hin) rfl rfl hd fun H1 e1 e2 e3 => ?_
  refine kk H1 _ ⟨hI.1.upd ha rfl e2 e3 (fun b hb => mm_setL_o M a _ _ hb) hI.1.2.2.2 (rl_at.longs ht ⟨cA, hA, ?_⟩), hI.2.1.put e2 e3 (Nat.le_add_right B a), hI.2.2.1, hI.2.2.2⟩
  rw [e1, arrV_store]
  refine congrArg some (congrArg (arrV cA _) (funext fun j => ?_))
  show _ = Value.long ((mm_setL M a i.toNatClampNeg x).2.2.1 a j)
  rw [mm_setL_at]
  by_cases hj : j = i.toNatClampNeg
  · rw [if_pos hj]; simp [updV, hj, narrow]
  · rw [if_neg hj]; simp [updV, hj]
theorem lk_ext {D : va_G} {U : State} {B : Nat} {M : mm_M} {H : Heap} (h : rl D U B M H) {a : Nat} (ha : a < M.1.1.1) : Nat.ble mm_ext a = false := by
  cases e : Nat.ble mm_ext a with
  | false => rfl
  | true =>
    have h1 := Nat.le_of_ble_eq_true e
    have h2 := h.1.2.2
    have h3 : mm_ext = 1000000 := rfl
    omega
set_option maxHeartbeats 2000000 in
theorem lk_law0 {l : Launch} (hl0 : l.stackTraces = false) {D : va_G} {E : Nat → Nat} {X : mm_X} {B x o p q : Nat} {f w : Int32} {M : mm_M} (hx : mm_isObj M x 10 = true) (hp : M.2.2.2 x 8 = some p) (h5 : mm_isObj M p 5 = true) (hob : mm_isObj M o 101 = true) (hol : M.1.1.2.2 o = 1) (hf : ¬ f < 0) (hf2 : ¬ M.2.1 p 2 ≤ f) (hw : w = 0 ∨ w = 1 ∨ w = 2 ∨ w = 3) (hq : M.2.2.2 p (6 + w.toNatClampNeg) = some q) (ho : mm_isObj M q 100 = true) (hn : f.toNatClampNeg < M.1.1.2.2 q) :
    Met l yL_look (.codeWith yL_look cL_look 5 (some .int) [(0, 10, 13, 13), (0, 10, 17, 15)] :: ws_all) (rm_d 10 1 6) (sn_Pc D E X B M [.ref x, .int f, .int w, .ref o]) (sn_Qc D E B (some (.int 0)) (mm_setL (mm_mark M) o 0 (M.2.1 q f.toNatClampNeg).toInt64)) 1 6 (rl_A B) := by
  refine Met_ofWH (cc := cL_look) (maxL := 5) (ret := some .int) (hh := [(0, 10, 13, 13), (0, 10, 17, 15)]) (by decide +kernel) rfl ?_
  intro p' e s m args below meth c s₁ Bd hml hv
  obtain ⟨rfl, hrl, hE, hK, hB⟩ := hv
  obtain ⟨as, has⟩ : ∃ as : Array Value, as = ([Value.ref x, .int f, .int w, .ref o].map (mm_tr B E)).toArray := ⟨_, rfl⟩
  have hts0 := atoms_spec Bd.pre
  have hts : ∀ w' ∈ lw_tbl, goodWord w' = true → w'.before ([Value.ref x, .int f, .int w, .ref o].map (mm_tr B E)).toArray s = true := fun w' h1 h2 => hts0 w' (List.mem_cons_of_mem _ (ws_in h1 h2))
  have htab := vx_table (x := yL_look) Bd (hts0 _ List.mem_cons_self)
  have hown : s.vm.findClass RL = some m.cls := findClass_of_methodNamed Bd.named
  have hl2 := (sn_entry (B := B) (E := E) (y := 3) (as := [.ref x, .int f, .int w, .ref o]) rfl (show 4 ≤ mm_mx 3 by decide)).2
  rw [lg_entry_eq]
  have hlocks := Bd.notSynchronized
  have hmx : mm_mx 3 = 5 := rfl
  rw [hmx] at hl2
  have he : mm_entry 3 [.ref x, .int f, .int w, .ref o] = [.ref x, .int f, .int w, .ref o, .null] := rfl
  rw [he] at hl2
  have hex := Bd.exec
  have hby := Bd.bytes
  obtain ⟨⟨d0, d1, d2, d3, d4, d5⟩, -⟩ := lk_dL
  obtain ⟨⟨d8, d9, d10, d21, d22⟩, -⟩ := lk_dL2
  have hRm : (headSpec (Cond.codeWith yL_look cL_look 5 (some .int) [(0, 10, 13, 13), (0, 10, 17, 15)] :: ws_all) (rm_d 10 1 6)).room = rm_d 10 1 6 := rfl
  rw [hRm]
  refine lv_aload_n (i := 3) hex hby d0 rfl (hl2.r (k := 3) rfl) ?_
  refine lv_iconst (pc := 1) hex hby d1 rfl ?_
  refine lv_aload_n (i := 0) (pc := 2) hex hby d2 rfl (hl2.r (k := 0) rfl) ?_
  refine lv_iload_n (i := 1) (pc := 3) hex hby d3 rfl (hl2.i (k := 1) rfl) ?_
  refine lv_iload_n (i := 2) (pc := 4) hex hby d4 rfl (hl2.i (k := 2) rfl) ?_
  have hxa : mm_ad B E x = B + x := hrl.ext (mm_isObj_P hx).1 E
  rw [hxa]
  obtain ⟨hmw, hcls, -, hpd⟩ := me_at (y := 248) (by decide) (by decide)
  have hon := on_at (ow_lt (mi := 248) (by decide))
  have hcode := hts _ (hmw _ List.mem_cons_self) rfl
  have hw1 : ∀ w' ∈ ws_y 248, ∀ (a' : Array Value) (U : State), s.WarmedH U.vm → w'.before a' U = true := fun w' hw a' U hW => by
    rcases List.mem_cons.mp hw with rfl | hw
    · exact word_at hW (good_of_word (w := Cond.code (mm_y 248) (mm_cc 248) (mm_mx 248) (mm_rt 248)) rfl) hcode
    · exact word_at hW (good_of_word (ws_good hw).2) (hts _ (ws_good hw).1 (ws_good hw).2)
  have hini := hts _ (hmw (Cond.initialized (mm_on (mm_ow 248))) (List.mem_cons_of_mem _ List.mem_cons_self)) rfl
  rw [← hcls] at hini
  have hin := hts _ (hmw (Cond.instanceMethod (mm_y 248)) (List.mem_cons_of_mem _ (List.mem_cons_of_mem _ List.mem_cons_self))) rfl
  have hse := hts _ (hmw (Cond.selects (mm_on (mm_ow 248)) (mm_y 248) (mm_y 248)) (List.mem_cons_of_mem _ (List.mem_cons_of_mem _ (List.mem_cons_of_mem _ List.mem_cons_self)))) rfl
  have hrec : ∃ cellB : Cell, s.heap[B + x]? = some cellB ∧ cellB.vm.isStatics = false ∧ s.vm.findClass (mm_on (mm_ow 248)) = some cellB.cls := by
    obtain ⟨g1, g2⟩ := mm_isObj_P hx
    obtain ⟨-, -, h3, -, -⟩ := cl_at (c := 10) (by decide)
    have hKn := hK.1 10 _ h3
    obtain ⟨cell, q1, q2, q3, -⟩ := (hrl.2.1 x g1).2.2.2.2.2 (by rw [g2]; decide)
    rw [g2] at q2
    exact ⟨cell, q1, by rw [q3]; rfl, by rw [q2]; exact hKn.2.1⟩
  have hpv : PreV s s.heap (mm_on (mm_ow 248)) (B + x) (sn_Pc D E X B M [.ref x, .int f, .int w]) [.int f, .int w] := ⟨sn_blind, hrec, fun U hU hW => ⟨by
    show [Value.ref (B + x), .int f, .int w].toArray = [Value.ref (mm_ad B E x), .int f, .int w].toArray
    rw [hxa], by rw [hU]; exact hrl.moved hW.alike, by rw [hU]; exact hE.warm hW, va_K.moved hW.alike hK, by rw [hU]; exact hB⟩⟩
  have hla : (lg_sl ([Value.ref x, .int f, .int w, .ref o].map (mm_tr B E)) ++ List.replicate (5 - (lg_sl ([Value.ref x, .int f, .int w, .ref o].map (mm_tr B E))).length) Slot.unset).toArray.size = 5 := hl2.2.1
  obtain ⟨nn, hrun⟩ := lk_run0 (X := X) hx hp h5 hf hf2 hw hq ho hn (lk_ext hrl (mm_isObj_P ho).1)
  have hMt := sn_met (l := l) (sn_run nn) (y := 248) (by decide) (by decide) (show mm_rc M 248 [.ref x, .int f, .int w] = true by
    show (true && mm_isObj M x 10) = true
    rw [hx]; rfl) hrun D E B
  have hI : sn_I D B s M.1.2.1 M.1.2.2.1 M s.heap [] 0 0 := ⟨hrl, va_S.rf, rfl, rfl⟩
  refine sn_after (va_runV (C := mm_on (mm_ow 248)) (own := RL) (index := 7) (bytes := mm_cc 248) (maxL := mm_mx 248) (ret := mm_rt 248) (n := 2) (nL := 5) (Ts := ws_all) (b := B + x) (As := [.int f, .int w]) (rest := [.int 0, .ref (mm_ad B E o)])
    ⟨hex, hby, hml, hown, fun w' hw => hts w' (ws_good hw).1 (ws_good hw).2⟩ hMt ⟨⟨rfl, rfl, (show 8 + 20 + 1 ≤ 10 + 20 by decide), (show 8 + (mm_mx 248 + 11) + (64 * 8 + 400) ≤ 64 * 10 + 400 by decide), hw1, List.mem_cons_self, hcode, hini, by rw [hcls]; exact hon.2, fun sig hs => by
      rw [hs] at hpd
      exact (Option.some.inj hpd).symm, hts _ lk_ml rfl⟩, hin, hse⟩ hpv rfl rfl hla rfl (lv_room (show 2 ≤ 8 by decide)) d5 ⟨by show 0 + (M.1.2.1 - M.1.2.1) ≤ 1; omega, by show 0 + (M.1.2.2.1 - M.1.2.2.1) ≤ 6; omega⟩) hI hB (by omega) (by omega) (fun H1 locs1 hI1 => ?_)
  refine lv_i2l (pc := 8) hex hby d8 rfl ?_
  have hoa : mm_ad B E o = B + o := hrl.ext (mm_isObj_P hob).1 E
  rw [hoa]
  refine lk_last (pc := 9) (i := 0) hex hby hI1 (mm_isObj_P hob).1 (mm_isObj_P hob).2 (by rw [hol]; decide) d9 (fun H2 locs2 hI2 => ?_)
  refine W.widen (k := 1) (n := 6) (by omega) (by omega) ?_
  refine lv_goto (pc := 10) hex hby d10 rfl ?_
  refine lv_iconst (pc := 21) (v := 0) hex hby d21 rfl ?_
  refine W.iret hex hby Bd.returns ?_ hI2.2.1.2.2 d22
  intro t9 ht9 hW9
  refine ⟨rfl, ?_, fun q hq => ?_, ?_⟩
  · rw [ht9]
    exact hI2.1.mark hW9.alike (Nat.le_refl _) (fun _ _ => rfl)
  · rw [ht9]
    exact hI2.2.1.2.1 q (by omega) (Nat.not_le.mpr hq)
  · rw [ht9]
    exact hI2.2.1.1
theorem lk_all {l : Launch} (hl0 : l.stackTraces = false) : lk_C l := fun D E X B M M1 as r h => by
  obtain ⟨x, f, w, o, p, rfl, h1, h6, h7, h2, h3, h4⟩ := mm_look_I h
  rcases h4 with ⟨h4, rfl, rfl⟩ | ⟨⟨g1, g2⟩, g3, q, g4, g5, g6, rfl, rfl⟩ | ⟨⟨g1, g2⟩, g3, rfl, rfl⟩
  · exact lk_law hl0 h1 h2 h3 h4
  · exact lk_law0 hl0 h1 h2 h3 h6 h7 g1 g2 g3 g4 g5 g6
  · exact lk_lawN hl0 h1 h2 h3 g1 g2 g3
end
