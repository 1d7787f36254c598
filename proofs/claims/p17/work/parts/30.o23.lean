theorem tg_270 {M M1 : mm_M} (F : FR (fun a i : Nat => 94 ≤ a ∧ a ≤ 98) M M1) : ∀ a i : Nat, WC_r a i → M1.2.1 a i = M.2.1 a i := fun a i z => F_n F (show ¬ (94 ≤ a ∧ a ≤ 98) by omega) rfl
theorem tg_271 : ∀ a i : Nat, (a < 0) → (a = 77 ∧ i = 2 ∨ 94 ≤ a ∧ a ≤ 98 ∨ a = 118) := fun a i z => by omega
theorem tg_272 : ∀ a i : Nat, (94 ≤ a ∧ a ≤ 98) → (a = 77 ∧ i = 2 ∨ 94 ≤ a ∧ a ≤ 98 ∨ a = 118) := fun a i z => by omega
set_option maxRecDepth 4000 in
set_option maxHeartbeats 0 in
theorem T_237_0 {X : mm_X} {d : Nat} {M : mm_M} {Q : Option Value → mm_M → Prop} {n : Int32} {w : Int32} (hX : g_X X) (hd : 3 ≤ d) (q1 : NJ M) (q2 : FA M) (q3 : WC M) (h : ∀ (r : Int32) (M1 : mm_M), g_G M1 → FR md_bs M M1 → Q (some (.int r)) M1) : ∀ nn9 : Nat, (∀ (N : mm_M) (u1 : Value) (x3 : Int32) (x4 : Int32) (x5 : Int32) (x6 : Int32) (x7 : Int32) (u8 : Value) (u9 : Value) (u10 : Value) (u11 : Value) (u12 : Value) (u13 : Value), g_G N → FR md_bs M N → (1 ≤ x4.toInt) → (x4.toInt ≤ 4) → (0 ≤ x3.toInt) → (x3.toInt ≤ 7) → (0 ≤ w.toInt) → (w.toInt ≤ 11) → (x4.toInt ≤ (N.2.1 83 (x3.toInt).toNat).toInt - (N.2.1 82 (x3.toInt).toNat).toInt + 1) → (∀ i : Nat, i < (x4.toInt).toNat → (N.2.1 118 i).toInt ≤ (N.2.1 83 (x3.toInt).toNat).toInt - (N.2.1 82 (x3.toInt).toNat).toInt + 1 - x4.toInt + i) → (16777216 - PV N (x4.toInt).toNat) * 1000 + 500 < (nn9 : Int) → mm_T X d 236 77 [.ref 77, u1, .int w, .int x3, .int x4, .int x5, .int x6, .int x7, u8, u9, u10, u11, u12, u13] [] N Q) ∧ (∀ (N : mm_M) (u1 : Value) (x3 : Int32) (x4 : Int32) (x5 : Int32) (x6 : Int32) (x7 : Int32) (x8 : Int32) (x9 : Int32) (u10 : Value) (u11 : Value) (u12 : Value) (u13 : Value), g_G N → FR md_bs M N → (1 ≤ x4.toInt) → (x4.toInt ≤ 4) → (0 ≤ x3.toInt) → (x3.toInt ≤ 7) → (0 ≤ w.toInt) → (w.toInt ≤ 11) → (x4.toInt ≤ (N.2.1 83 (x3.toInt).toNat).toInt - (N.2.1 82 (x3.toInt).toNat).toInt + 1) → (0 ≤ x9.toInt) → (x9.toInt ≤ 4) → (∀ i : Nat, i < (x4.toInt).toNat → (N.2.1 118 i).toInt ≤ (N.2.1 83 (x3.toInt).toNat).toInt - (N.2.1 82 (x3.toInt).toNat).toInt + 1 - x4.toInt + i) → (16777216 - PV N (x4.toInt).toNat) * 1000 + 400 - x9.toInt < (nn9 : Int) → mm_T X d 236 83 [.ref 77, u1, .int w, .int x3, .int x4, .int x5, .int x6, .int x7, .int x8, .int x9, u10, u11, u12, u13] [] N Q) ∧ (∀ (N : mm_M) (u1 : Value) (x3 : Int32) (x4 : Int32) (x5 : Int32) (x6 : Int32) (x7 : Int32) (u8 : Value) (u9 : Value) (u10 : Value) (u11 : Value) (x12 : Int32) (u13 : Value), g_G N → FR md_bs M N → (1 ≤ x4.toInt) → (x4.toInt ≤ 4) → (0 ≤ x3.toInt) → (x3.toInt ≤ 7) → (0 ≤ w.toInt) → (w.toInt ≤ 11) → (x4.toInt ≤ (N.2.1 83 (x3.toInt).toNat).toInt - (N.2.1 82 (x3.toInt).toNat).toInt + 1) → (-1 ≤ x12.toInt) → (x12.toInt ≤ 3) → (x12.toInt < x4.toInt) → (∀ i : Nat, i < (x4.toInt).toNat → (N.2.1 118 i).toInt ≤ (N.2.1 83 (x3.toInt).toNat).toInt - (N.2.1 82 (x3.toInt).toNat).toInt + 1 - x4.toInt + i) → (16777216 - PV N (x4.toInt).toNat) * 1000 + 200 + x12.toInt < (nn9 : Int) → mm_T X d 236 226 [.ref 77, u1, .int w, .int x3, .int x4, .int x5, .int x6, .int x7, u8, u9, u10, u11, .int x12, u13] [] N Q) ∧ (∀ (N : mm_M) (u1 : Value) (x3 : Int32) (x4 : Int32) (x5 : Int32) (x6 : Int32) (x7 : Int32) (u8 : Value) (u9 : Value) (u10 : Value) (u11 : Value) (u12 : Value) (x13 : Int32), g_G N → FR md_bs M N → (1 ≤ x4.toInt) → (x4.toInt ≤ 4) → (0 ≤ x3.toInt) → (x3.toInt ≤ 7) → (0 ≤ w.toInt) → (w.toInt ≤ 11) → (x4.toInt ≤ (N.2.1 83 (x3.toInt).toNat).toInt - (N.2.1 82 (x3.toInt).toNat).toInt + 1) → (1 ≤ x13.toInt) → (x13.toInt ≤ 4) → (x13.toInt ≤ x4.toInt) → (∀ i : Nat, i < (x13.toInt).toNat → (N.2.1 118 i).toInt ≤ (N.2.1 83 (x3.toInt).toNat).toInt - (N.2.1 82 (x3.toInt).toNat).toInt + 1 - x4.toInt + i) → (16777216 - PW N (x13.toInt).toNat (x4.toInt).toNat) * 1000 + 900 - x13.toInt < (nn9 : Int) → mm_T X d 236 283 [.ref 77, u1, .int w, .int x3, .int x4, .int x5, .int x6, .int x7, u8, u9, u10, u11, u12, .int x13] [] N Q) := by
  intro nn9
  induction nn9 with
  | zero =>
    refine ⟨?_, ?_, ?_, ?_⟩
    · intro N u1 x3 x4 x5 x6 x7 u8 u9 u10 u11 u12 u13 hG F0 g1 g2 g3 g4 g5 g6 g7 g8 hm
      have s_1 := PV_b hG (x4.toInt).toNat
      have s_2 := pw_4 (k := (x4.toInt).toNat) (by omega)
      exfalso; omega
    · intro N u1 x3 x4 x5 x6 x7 x8 x9 u10 u11 u12 u13 hG F0 g1 g2 g3 g4 g5 g6 g7 g8 g9 g10 hm
      have s_3 := PV_b hG (x4.toInt).toNat
      have s_4 := pw_4 (k := (x4.toInt).toNat) (by omega)
      exfalso; omega
    · intro N u1 x3 x4 x5 x6 x7 u8 u9 u10 u11 x12 u13 hG F0 g1 g2 g3 g4 g5 g6 g7 g8 g9 g10 g11 hm
      have s_5 := PV_b hG (x4.toInt).toNat
      have s_6 := pw_4 (k := (x4.toInt).toNat) (by omega)
      exfalso; omega
    · intro N u1 x3 x4 x5 x6 x7 u8 u9 u10 u11 u12 x13 hG F0 g1 g2 g3 g4 g5 g6 g7 g8 g9 g10 g11 hm
      have s_7 := PW_b hG (j := (x13.toInt).toNat) (k := (x4.toInt).toNat) (by omega) (by omega)
      exfalso; omega
  | succ nn9 ih =>
    refine ⟨?_, ?_, ?_, ?_⟩
    · intro N u1 x3 x4 x5 x6 x7 u8 u9 u10 u11 u12 u13 hG F0 g1 g2 g3 g4 g5 g6 g7 g8 hm
      have s_8 := PV_b hG (x4.toInt).toNat
      have s_9 := pw_4 (k := (x4.toInt).toNat) (by omega)
      have s_10 := g_b hG (a := 83) (i := (x3.toInt).toNat) (lo := 0) (hi := 63) rfl rfl
      have s_11 := g_b hG (a := 82) (i := (x3.toInt).toNat) (lo := 0) (hi := 59) rfl rfl
      refine to_c (pc := 77) rw_237_77 (x := (0 : Int32)) rfl rfl ?_
      refine to_is (pc := 78) rw_237_78 (ls2 := [.ref 77, u1, .int w, .int x3, .int x4, .int x5, .int x6, .int x7, .int (0 : Int32), u9, u10, u11, u12, u13]) rfl rfl ?_
      refine to_c (pc := 80) rw_237_80 (x := (0 : Int32)) rfl rfl ?_
      refine to_is (pc := 81) rw_237_81 (ls2 := [.ref 77, u1, .int w, .int x3, .int x4, .int x5, .int x6, .int x7, .int (0 : Int32), .int (0 : Int32), u10, u11, u12, u13]) rfl rfl ?_
      have k_12 : (0 : Int32).toInt = 0 := rfl
      exact ih.2.1 N (u1) x3 x4 x5 x6 x7 (0 : Int32) (0 : Int32) (u10) (u11) (u12) (u13) hG F0 (by omega) (by omega) (by omega) (by omega) (by omega) (by omega) (by omega) (by omega) (by omega) g8 (by omega)
    · intro N u1 x3 x4 x5 x6 x7 x8 x9 u10 u11 u12 u13 hG F0 g1 g2 g3 g4 g5 g6 g7 g8 g9 g10 hm
      have s_13 := PV_b hG (x4.toInt).toNat
      have s_14 := pw_4 (k := (x4.toInt).toNat) (by omega)
      have s_15 := g_b hG (a := 83) (i := (x3.toInt).toNat) (lo := 0) (hi := 63) rfl rfl
      have s_16 := g_b hG (a := 82) (i := (x3.toInt).toNat) (lo := 0) (hi := 59) rfl rfl
      refine to_i (pc := 83) rw_237_83 rfl ?_
      refine to_i (pc := 85) rw_237_85 rfl ?_
      refine b_cge (pc := 87) rw_237_87 (A := x9.toInt) (B := x4.toInt) rfl rfl (fun h17 => ?_) (fun h17 => ?_)
      · refine to_an (pc := 110) rw_237_110 rfl ?_
        refine to_in (pc := 111) rw_237_111 rfl ?_
        refine to_an (pc := 112) rw_237_112 rfl ?_
        refine to_in (pc := 113) rw_237_113 rfl ?_
        refine to_i (pc := 114) rw_237_114 rfl ?_
        refine s_v (pc := 116) rw_237_116 (by omega) (ls0 := [.ref 77, .int w, .int x8]) rfl (Nat.le_of_ble_eq_true rfl) (Nat.le_of_ble_eq_true rfl) rfl (to_rc rfl rfl rfl (g_o hG rfl)) rfl ?_
        refine to_in (pc := 0) rw_188_0 rfl ?_
        refine s_i2l (pc := 1) rw_188_1 (fun l18 e19 => ?_)
        refine to_an (pc := 2) rw_188_2 rfl ?_
        refine s_gR (pc := 3) rw_188_3 hG rfl (v := 82) rfl ?_
        refine to_an (pc := 6) rw_188_6 rfl ?_
        refine s_gR (pc := 7) rw_188_7 hG rfl (v := 86) rfl ?_
        refine to_in (pc := 10) rw_188_10 rfl ?_
        refine s_ial (pc := 11) rw_188_11 hG rfl (n := 24) rfl rfl (A := w.toInt) rfl (by omega) (by omega) (lo := 0) (hi := 7) rfl rfl (fun v20 w_21 _ _ => ?_)
        refine s_ial (pc := 12) rw_188_12 hG rfl (n := 16) rfl rfl (A := v20.toInt) rfl (by omega) (by omega) (lo := 0) (hi := 59) rfl rfl (fun v22 w_23 _ _ => ?_)
        have t_24 := congrArg Int32.toInt w_23
        refine s_anyS (pc := 13) rw_188_13 (fun _ _ => rfl) (fun l25 => ?_)
        refine to_rl (pc := 14) rw_188_14 ?_
        refine s_v (pc := 119) rw_237_119 (by omega) (ls0 := [.ref 77, .int w, .long l25, .null, .null, .null]) rfl (Nat.le_of_ble_eq_true rfl) (Nat.le_of_ble_eq_true rfl) rfl (to_rc rfl rfl rfl (g_o hG rfl)) rfl ?_
        refine C_234 hX (by omega) hG (w := w) (x := l25) (fun r26 M29 hG28 F27 => ?_)
        have F30 := FR.c F0 F27 tg_271
        refine to_is (pc := 122) rw_237_122 (ls2 := [.ref 77, u1, .int w, .int x3, .int x4, .int x5, .int x6, .int x7, .int x8, .int r26, u10, u11, u12, u13]) rfl rfl ?_
        refine to_i (pc := 124) rw_237_124 rfl ?_
        refine to_c (pc := 126) rw_237_126 (x := (-1 : Int32)) rfl rfl ?_
        refine b_ceq (pc := 127) rw_237_127 (A := x5.toInt) (B := -1) rfl rfl (fun h31 => ?_) (fun h31 => ?_)
        · refine to_an (pc := 137) rw_237_137 rfl ?_
          refine to_in (pc := 138) rw_237_138 rfl ?_
          refine to_an (pc := 139) rw_237_139 rfl ?_
          refine to_in (pc := 140) rw_237_140 rfl ?_
          refine to_i (pc := 141) rw_237_141 rfl ?_
          refine s_v (pc := 143) rw_237_143 (by omega) (ls0 := [.ref 77, .int w, .int x8]) rfl (Nat.le_of_ble_eq_true rfl) (Nat.le_of_ble_eq_true rfl) rfl (to_rc rfl rfl rfl (g_o hG28 rfl)) rfl ?_
          refine to_in (pc := 0) rw_188_0 rfl ?_
          refine s_i2l (pc := 1) rw_188_1 (fun l32 e33 => ?_)
          refine to_an (pc := 2) rw_188_2 rfl ?_
          refine s_gR (pc := 3) rw_188_3 hG28 rfl (v := 82) rfl ?_
          refine to_an (pc := 6) rw_188_6 rfl ?_
          refine s_gR (pc := 7) rw_188_7 hG28 rfl (v := 86) rfl ?_
          refine to_in (pc := 10) rw_188_10 rfl ?_
          refine s_ialk (pc := 11) rw_188_11 hG28 rfl (n := 24) rfl rfl (A := w.toInt) rfl (by omega) (by omega) (v := v20) (F_n F27 (show ¬ (86 < 0) by decide) w_21) ?_
          refine s_ialk (pc := 12) rw_188_12 hG28 rfl (n := 16) rfl rfl (A := v20.toInt) rfl (by omega) (by omega) (v := v22) (F_n F27 (show ¬ (82 < 0) by decide) w_23) ?_
          refine s_anyS (pc := 13) rw_188_13 (fun _ _ => rfl) (fun l38 => ?_)
          refine to_rl (pc := 14) rw_188_14 ?_
          refine s_v (pc := 146) rw_237_146 (by omega) (ls0 := [.ref 77, .int w, .long l38, .null, .null, .null]) rfl (Nat.le_of_ble_eq_true rfl) (Nat.le_of_ble_eq_true rfl) rfl (to_rc rfl rfl rfl (g_o hG28 rfl)) rfl ?_
          refine C_236 hX (by omega) hG28 (w := w) (x := l38) (fun r39 M42 hG41 F40 => ?_)
          have F43 := FR.c F30 F40 tg_271
          refine to_go (pc := 149) rw_237_149 ?_
          refine to_is (pc := 153) rw_237_153 (ls2 := [.ref 77, u1, .int w, .int x3, .int x4, .int x5, .int x6, .int x7, .int x8, .int r26, .int r39, u11, u12, u13]) rfl rfl ?_
          refine to_i (pc := 155) rw_237_155 rfl ?_
          refine to_c (pc := 157) rw_237_157 (x := (-1 : Int32)) rfl rfl ?_
          refine b_ceq_t (pc := 158) rw_237_158 (A := x5.toInt) (B := -1) rfl rfl (by omega) ?_
          refine to_c (pc := 196) rw_237_196 (x := (1 : Int32)) rfl rfl ?_
          refine to_go (pc := 197) rw_237_197 ?_
          refine to_is (pc := 201) rw_237_201 (ls2 := [.ref 77, u1, .int w, .int x3, .int x4, .int x5, .int x6, .int x7, .int x8, .int r26, .int r39, .int (1 : Int32), u12, u13]) rfl rfl ?_
          refine to_i (pc := 203) rw_237_203 rfl ?_
          refine b_ieq_f (pc := 205) rw_237_205 (A := 1) rfl (by omega) ?_
          refine to_i (pc := 208) rw_237_208 rfl ?_
          refine to_is (pc := 210) rw_237_210 (ls2 := [.ref 77, u1, .int w, .int x3, .int x4, .int x8, .int x6, .int x7, .int x8, .int r26, .int r39, .int (1 : Int32), u12, u13]) rfl rfl ?_
          refine to_i (pc := 212) rw_237_212 rfl ?_
          refine to_is (pc := 214) rw_237_214 (ls2 := [.ref 77, u1, .int w, .int x3, .int x4, .int x8, .int r26, .int x7, .int x8, .int r26, .int r39, .int (1 : Int32), u12, u13]) rfl rfl ?_
          refine to_i (pc := 216) rw_237_216 rfl ?_
          refine to_is (pc := 218) rw_237_218 (ls2 := [.ref 77, u1, .int w, .int x3, .int x4, .int x8, .int r26, .int r39, .int x8, .int r26, .int r39, .int (1 : Int32), u12, u13]) rfl rfl ?_
          refine to_i (pc := 220) rw_237_220 rfl ?_
          refine to_c (pc := 222) rw_237_222 (x := (1 : Int32)) rfl rfl ?_
          refine s_sub (pc := 223) rw_237_223 (A := x4.toInt) (B := 1) rfl rfl (by omega) (fun v44 e45 => ?_)
          refine to_is (pc := 224) rw_237_224 (ls2 := [.ref 77, u1, .int w, .int x3, .int x4, .int x8, .int r26, .int r39, .int x8, .int r26, .int r39, .int (1 : Int32), .int v44, u13]) rfl rfl ?_
          have t_46 : (M42.2.1 83 (x3.toInt).toNat).toInt = (N.2.1 83 (x3.toInt).toNat).toInt := congrArg Int32.toInt (F_n F40 (show ¬ (83 < 0) by decide) (F_n F27 (show ¬ (83 < 0) by decide) rfl))
          have t_47 : (M42.2.1 82 (x3.toInt).toNat).toInt = (N.2.1 82 (x3.toInt).toNat).toInt := congrArg Int32.toInt (F_n F40 (show ¬ (82 < 0) by decide) (F_n F27 (show ¬ (82 < 0) by decide) rfl))
          have t_48 : (M42.2.1 82 (x3.toInt).toNat).toInt = (N.2.1 82 (x3.toInt).toNat).toInt := congrArg Int32.toInt (F_n F40 (show ¬ (82 < 0) by decide) (F_n F27 (show ¬ (82 < 0) by decide) rfl))
          have t_49 : (M42.2.1 83 (x3.toInt).toNat).toInt = (N.2.1 83 (x3.toInt).toNat).toInt := congrArg Int32.toInt (F_n F40 (show ¬ (83 < 0) by decide) (F_n F27 (show ¬ (83 < 0) by decide) rfl))
          have s_50 : PV M42 (x4.toInt).toNat = PV N (x4.toInt).toNat := PV_f _ (fun i z => (F_n F40 (show ¬ (118 < 0) by decide) (F_n F27 (show ¬ (118 < 0) by decide) rfl)))
          exact ih.2.2.1 M42 (u1) x3 x4 x8 r26 r39 (.int x8) (.int r26) (.int r39) (.int (1 : Int32)) v44 (u13) hG41 F43 (by omega) (by omega) (by omega) (by omega) (by omega) (by omega) (by omega) (by omega) (by omega) (by omega) (fun i z => by have z2 := g10 i z; rw [(F_n F40 (show ¬ (118 < 0) by decide) (F_n F27 (show ¬ (118 < 0) by decide) rfl))]; omega) (by omega)
        · refine to_i (pc := 130) rw_237_130 rfl ?_
          refine to_i (pc := 132) rw_237_132 rfl ?_
          refine b_cgt (pc := 134) rw_237_134 (A := r26.toInt) (B := x6.toInt) rfl rfl (fun h51 => ?_) (fun h51 => ?_)
          · refine to_c (pc := 152) rw_237_152 (x := (0 : Int32)) rfl rfl ?_
            refine to_is (pc := 153) rw_237_153 (ls2 := [.ref 77, u1, .int w, .int x3, .int x4, .int x5, .int x6, .int x7, .int x8, .int r26, .int (0 : Int32), u11, u12, u13]) rfl rfl ?_
            refine to_i (pc := 155) rw_237_155 rfl ?_
            refine to_c (pc := 157) rw_237_157 (x := (-1 : Int32)) rfl rfl ?_
            refine b_ceq (pc := 158) rw_237_158 (A := x5.toInt) (B := -1) rfl rfl (fun h52 => ?_) (fun h52 => ?_)
            · refine to_c (pc := 196) rw_237_196 (x := (1 : Int32)) rfl rfl ?_
              refine to_go (pc := 197) rw_237_197 ?_
              refine to_is (pc := 201) rw_237_201 (ls2 := [.ref 77, u1, .int w, .int x3, .int x4, .int x5, .int x6, .int x7, .int x8, .int r26, .int (0 : Int32), .int (1 : Int32), u12, u13]) rfl rfl ?_
              refine to_i (pc := 203) rw_237_203 rfl ?_
              refine b_ieq_f (pc := 205) rw_237_205 (A := 1) rfl (by omega) ?_
              refine to_i (pc := 208) rw_237_208 rfl ?_
              refine to_is (pc := 210) rw_237_210 (ls2 := [.ref 77, u1, .int w, .int x3, .int x4, .int x8, .int x6, .int x7, .int x8, .int r26, .int (0 : Int32), .int (1 : Int32), u12, u13]) rfl rfl ?_
              refine to_i (pc := 212) rw_237_212 rfl ?_
              refine to_is (pc := 214) rw_237_214 (ls2 := [.ref 77, u1, .int w, .int x3, .int x4, .int x8, .int r26, .int x7, .int x8, .int r26, .int (0 : Int32), .int (1 : Int32), u12, u13]) rfl rfl ?_
              refine to_i (pc := 216) rw_237_216 rfl ?_
              refine to_is (pc := 218) rw_237_218 (ls2 := [.ref 77, u1, .int w, .int x3, .int x4, .int x8, .int r26, .int (0 : Int32), .int x8, .int r26, .int (0 : Int32), .int (1 : Int32), u12, u13]) rfl rfl ?_
              refine to_i (pc := 220) rw_237_220 rfl ?_
              refine to_c (pc := 222) rw_237_222 (x := (1 : Int32)) rfl rfl ?_
              refine s_sub (pc := 223) rw_237_223 (A := x4.toInt) (B := 1) rfl rfl (by omega) (fun v53 e54 => ?_)
              refine to_is (pc := 224) rw_237_224 (ls2 := [.ref 77, u1, .int w, .int x3, .int x4, .int x8, .int r26, .int (0 : Int32), .int x8, .int r26, .int (0 : Int32), .int (1 : Int32), .int v53, u13]) rfl rfl ?_
              have k_55 : (0 : Int32).toInt = 0 := rfl
              have t_56 : (M29.2.1 83 (x3.toInt).toNat).toInt = (N.2.1 83 (x3.toInt).toNat).toInt := congrArg Int32.toInt (F_n F27 (show ¬ (83 < 0) by decide) rfl)
              have t_57 : (M29.2.1 82 (x3.toInt).toNat).toInt = (N.2.1 82 (x3.toInt).toNat).toInt := congrArg Int32.toInt (F_n F27 (show ¬ (82 < 0) by decide) rfl)
              have t_58 : (M29.2.1 82 (x3.toInt).toNat).toInt = (N.2.1 82 (x3.toInt).toNat).toInt := congrArg Int32.toInt (F_n F27 (show ¬ (82 < 0) by decide) rfl)
              have t_59 : (M29.2.1 83 (x3.toInt).toNat).toInt = (N.2.1 83 (x3.toInt).toNat).toInt := congrArg Int32.toInt (F_n F27 (show ¬ (83 < 0) by decide) rfl)
              have s_60 : PV M29 (x4.toInt).toNat = PV N (x4.toInt).toNat := PV_f _ (fun i z => (F_n F27 (show ¬ (118 < 0) by decide) rfl))
              exact ih.2.2.1 M29 (u1) x3 x4 x8 r26 (0 : Int32) (.int x8) (.int r26) (.int (0 : Int32)) (.int (1 : Int32)) v53 (u13) hG28 F30 (by omega) (by omega) (by omega) (by omega) (by omega) (by omega) (by omega) (by omega) (by omega) (by omega) (fun i z => by have z2 := g10 i z; rw [(F_n F27 (show ¬ (118 < 0) by decide) rfl)]; omega) (by omega)
            · refine to_i (pc := 161) rw_237_161 rfl ?_
              refine to_i (pc := 163) rw_237_163 rfl ?_
              refine b_clt (pc := 165) rw_237_165 (A := r26.toInt) (B := x6.toInt) rfl rfl (fun h61 => ?_) (fun h61 => ?_)
              · refine to_c (pc := 196) rw_237_196 (x := (1 : Int32)) rfl rfl ?_
                refine to_go (pc := 197) rw_237_197 ?_
                refine to_is (pc := 201) rw_237_201 (ls2 := [.ref 77, u1, .int w, .int x3, .int x4, .int x5, .int x6, .int x7, .int x8, .int r26, .int (0 : Int32), .int (1 : Int32), u12, u13]) rfl rfl ?_
                refine to_i (pc := 203) rw_237_203 rfl ?_
                refine b_ieq_f (pc := 205) rw_237_205 (A := 1) rfl (by omega) ?_
                refine to_i (pc := 208) rw_237_208 rfl ?_
                refine to_is (pc := 210) rw_237_210 (ls2 := [.ref 77, u1, .int w, .int x3, .int x4, .int x8, .int x6, .int x7, .int x8, .int r26, .int (0 : Int32), .int (1 : Int32), u12, u13]) rfl rfl ?_
                refine to_i (pc := 212) rw_237_212 rfl ?_
                refine to_is (pc := 214) rw_237_214 (ls2 := [.ref 77, u1, .int w, .int x3, .int x4, .int x8, .int r26, .int x7, .int x8, .int r26, .int (0 : Int32), .int (1 : Int32), u12, u13]) rfl rfl ?_
                refine to_i (pc := 216) rw_237_216 rfl ?_
                refine to_is (pc := 218) rw_237_218 (ls2 := [.ref 77, u1, .int w, .int x3, .int x4, .int x8, .int r26, .int (0 : Int32), .int x8, .int r26, .int (0 : Int32), .int (1 : Int32), u12, u13]) rfl rfl ?_
                refine to_i (pc := 220) rw_237_220 rfl ?_
                refine to_c (pc := 222) rw_237_222 (x := (1 : Int32)) rfl rfl ?_
                refine s_sub (pc := 223) rw_237_223 (A := x4.toInt) (B := 1) rfl rfl (by omega) (fun v62 e63 => ?_)
                refine to_is (pc := 224) rw_237_224 (ls2 := [.ref 77, u1, .int w, .int x3, .int x4, .int x8, .int r26, .int (0 : Int32), .int x8, .int r26, .int (0 : Int32), .int (1 : Int32), .int v62, u13]) rfl rfl ?_
                have k_64 : (0 : Int32).toInt = 0 := rfl
                have t_65 : (M29.2.1 83 (x3.toInt).toNat).toInt = (N.2.1 83 (x3.toInt).toNat).toInt := congrArg Int32.toInt (F_n F27 (show ¬ (83 < 0) by decide) rfl)
                have t_66 : (M29.2.1 82 (x3.toInt).toNat).toInt = (N.2.1 82 (x3.toInt).toNat).toInt := congrArg Int32.toInt (F_n F27 (show ¬ (82 < 0) by decide) rfl)
                have t_67 : (M29.2.1 82 (x3.toInt).toNat).toInt = (N.2.1 82 (x3.toInt).toNat).toInt := congrArg Int32.toInt (F_n F27 (show ¬ (82 < 0) by decide) rfl)
                have t_68 : (M29.2.1 83 (x3.toInt).toNat).toInt = (N.2.1 83 (x3.toInt).toNat).toInt := congrArg Int32.toInt (F_n F27 (show ¬ (83 < 0) by decide) rfl)
                have s_69 : PV M29 (x4.toInt).toNat = PV N (x4.toInt).toNat := PV_f _ (fun i z => (F_n F27 (show ¬ (118 < 0) by decide) rfl))
                exact ih.2.2.1 M29 (u1) x3 x4 x8 r26 (0 : Int32) (.int x8) (.int r26) (.int (0 : Int32)) (.int (1 : Int32)) v62 (u13) hG28 F30 (by omega) (by omega) (by omega) (by omega) (by omega) (by omega) (by omega) (by omega) (by omega) (by omega) (fun i z => by have z2 := g10 i z; rw [(F_n F27 (show ¬ (118 < 0) by decide) rfl)]; omega) (by omega)
              · refine to_i (pc := 168) rw_237_168 rfl ?_
                refine to_i (pc := 170) rw_237_170 rfl ?_
                refine b_cne (pc := 172) rw_237_172 (A := r26.toInt) (B := x6.toInt) rfl rfl (fun h70 => ?_) (fun h70 => ?_)
                · refine to_c (pc := 200) rw_237_200 (x := (0 : Int32)) rfl rfl ?_
                  refine to_is (pc := 201) rw_237_201 (ls2 := [.ref 77, u1, .int w, .int x3, .int x4, .int x5, .int x6, .int x7, .int x8, .int r26, .int (0 : Int32), .int (0 : Int32), u12, u13]) rfl rfl ?_
                  refine to_i (pc := 203) rw_237_203 rfl ?_
                  refine b_ieq_t (pc := 205) rw_237_205 (A := 0) rfl (by omega) ?_
                  refine to_i (pc := 220) rw_237_220 rfl ?_
                  refine to_c (pc := 222) rw_237_222 (x := (1 : Int32)) rfl rfl ?_
                  refine s_sub (pc := 223) rw_237_223 (A := x4.toInt) (B := 1) rfl rfl (by omega) (fun v71 e72 => ?_)
                  refine to_is (pc := 224) rw_237_224 (ls2 := [.ref 77, u1, .int w, .int x3, .int x4, .int x5, .int x6, .int x7, .int x8, .int r26, .int (0 : Int32), .int (0 : Int32), .int v71, u13]) rfl rfl ?_
                  have t_73 : (M29.2.1 83 (x3.toInt).toNat).toInt = (N.2.1 83 (x3.toInt).toNat).toInt := congrArg Int32.toInt (F_n F27 (show ¬ (83 < 0) by decide) rfl)
                  have t_74 : (M29.2.1 82 (x3.toInt).toNat).toInt = (N.2.1 82 (x3.toInt).toNat).toInt := congrArg Int32.toInt (F_n F27 (show ¬ (82 < 0) by decide) rfl)
                  have t_75 : (M29.2.1 82 (x3.toInt).toNat).toInt = (N.2.1 82 (x3.toInt).toNat).toInt := congrArg Int32.toInt (F_n F27 (show ¬ (82 < 0) by decide) rfl)
                  have t_76 : (M29.2.1 83 (x3.toInt).toNat).toInt = (N.2.1 83 (x3.toInt).toNat).toInt := congrArg Int32.toInt (F_n F27 (show ¬ (83 < 0) by decide) rfl)
                  have s_77 : PV M29 (x4.toInt).toNat = PV N (x4.toInt).toNat := PV_f _ (fun i z => (F_n F27 (show ¬ (118 < 0) by decide) rfl))
                  exact ih.2.2.1 M29 (u1) x3 x4 x5 x6 x7 (.int x8) (.int r26) (.int (0 : Int32)) (.int (0 : Int32)) v71 (u13) hG28 F30 (by omega) (by omega) (by omega) (by omega) (by omega) (by omega) (by omega) (by omega) (by omega) (by omega) (fun i z => by have z2 := g10 i z; rw [(F_n F27 (show ¬ (118 < 0) by decide) rfl)]; omega) (by omega)
                · refine to_i (pc := 175) rw_237_175 rfl ?_
                  refine to_i (pc := 177) rw_237_177 rfl ?_
                  refine b_clt (pc := 179) rw_237_179 (A := 0) (B := x7.toInt) rfl rfl (fun h78 => ?_) (fun h78 => ?_)
                  · refine to_c (pc := 196) rw_237_196 (x := (1 : Int32)) rfl rfl ?_
                    refine to_go (pc := 197) rw_237_197 ?_
                    refine to_is (pc := 201) rw_237_201 (ls2 := [.ref 77, u1, .int w, .int x3, .int x4, .int x5, .int x6, .int x7, .int x8, .int r26, .int (0 : Int32), .int (1 : Int32), u12, u13]) rfl rfl ?_
                    refine to_i (pc := 203) rw_237_203 rfl ?_
                    refine b_ieq_f (pc := 205) rw_237_205 (A := 1) rfl (by omega) ?_
                    refine to_i (pc := 208) rw_237_208 rfl ?_
                    refine to_is (pc := 210) rw_237_210 (ls2 := [.ref 77, u1, .int w, .int x3, .int x4, .int x8, .int x6, .int x7, .int x8, .int r26, .int (0 : Int32), .int (1 : Int32), u12, u13]) rfl rfl ?_
                    refine to_i (pc := 212) rw_237_212 rfl ?_
                    refine to_is (pc := 214) rw_237_214 (ls2 := [.ref 77, u1, .int w, .int x3, .int x4, .int x8, .int r26, .int x7, .int x8, .int r26, .int (0 : Int32), .int (1 : Int32), u12, u13]) rfl rfl ?_
                    refine to_i (pc := 216) rw_237_216 rfl ?_
                    refine to_is (pc := 218) rw_237_218 (ls2 := [.ref 77, u1, .int w, .int x3, .int x4, .int x8, .int r26, .int (0 : Int32), .int x8, .int r26, .int (0 : Int32), .int (1 : Int32), u12, u13]) rfl rfl ?_
                    refine to_i (pc := 220) rw_237_220 rfl ?_
                    refine to_c (pc := 222) rw_237_222 (x := (1 : Int32)) rfl rfl ?_
                    refine s_sub (pc := 223) rw_237_223 (A := x4.toInt) (B := 1) rfl rfl (by omega) (fun v79 e80 => ?_)
                    refine to_is (pc := 224) rw_237_224 (ls2 := [.ref 77, u1, .int w, .int x3, .int x4, .int x8, .int r26, .int (0 : Int32), .int x8, .int r26, .int (0 : Int32), .int (1 : Int32), .int v79, u13]) rfl rfl ?_
                    have k_81 : (0 : Int32).toInt = 0 := rfl
                    have t_82 : (M29.2.1 83 (x3.toInt).toNat).toInt = (N.2.1 83 (x3.toInt).toNat).toInt := congrArg Int32.toInt (F_n F27 (show ¬ (83 < 0) by decide) rfl)
                    have t_83 : (M29.2.1 82 (x3.toInt).toNat).toInt = (N.2.1 82 (x3.toInt).toNat).toInt := congrArg Int32.toInt (F_n F27 (show ¬ (82 < 0) by decide) rfl)
                    have t_84 : (M29.2.1 82 (x3.toInt).toNat).toInt = (N.2.1 82 (x3.toInt).toNat).toInt := congrArg Int32.toInt (F_n F27 (show ¬ (82 < 0) by decide) rfl)
                    have t_85 : (M29.2.1 83 (x3.toInt).toNat).toInt = (N.2.1 83 (x3.toInt).toNat).toInt := congrArg Int32.toInt (F_n F27 (show ¬ (83 < 0) by decide) rfl)
                    have s_86 : PV M29 (x4.toInt).toNat = PV N (x4.toInt).toNat := PV_f _ (fun i z => (F_n F27 (show ¬ (118 < 0) by decide) rfl))
                    exact ih.2.2.1 M29 (u1) x3 x4 x8 r26 (0 : Int32) (.int x8) (.int r26) (.int (0 : Int32)) (.int (1 : Int32)) v79 (u13) hG28 F30 (by omega) (by omega) (by omega) (by omega) (by omega) (by omega) (by omega) (by omega) (by omega) (by omega) (fun i z => by have z2 := g10 i z; rw [(F_n F27 (show ¬ (118 < 0) by decide) rfl)]; omega) (by omega)
                  · refine to_i (pc := 182) rw_237_182 rfl ?_
                    refine to_i (pc := 184) rw_237_184 rfl ?_
                    refine b_cne (pc := 186) rw_237_186 (A := 0) (B := x7.toInt) rfl rfl (fun h87 => ?_) (fun h87 => ?_)
                    · refine to_c (pc := 200) rw_237_200 (x := (0 : Int32)) rfl rfl ?_
                      refine to_is (pc := 201) rw_237_201 (ls2 := [.ref 77, u1, .int w, .int x3, .int x4, .int x5, .int x6, .int x7, .int x8, .int r26, .int (0 : Int32), .int (0 : Int32), u12, u13]) rfl rfl ?_
                      refine to_i (pc := 203) rw_237_203 rfl ?_
                      refine b_ieq_t (pc := 205) rw_237_205 (A := 0) rfl (by omega) ?_
                      refine to_i (pc := 220) rw_237_220 rfl ?_
                      refine to_c (pc := 222) rw_237_222 (x := (1 : Int32)) rfl rfl ?_
                      refine s_sub (pc := 223) rw_237_223 (A := x4.toInt) (B := 1) rfl rfl (by omega) (fun v88 e89 => ?_)
                      refine to_is (pc := 224) rw_237_224 (ls2 := [.ref 77, u1, .int w, .int x3, .int x4, .int x5, .int x6, .int x7, .int x8, .int r26, .int (0 : Int32), .int (0 : Int32), .int v88, u13]) rfl rfl ?_
                      have t_90 : (M29.2.1 83 (x3.toInt).toNat).toInt = (N.2.1 83 (x3.toInt).toNat).toInt := congrArg Int32.toInt (F_n F27 (show ¬ (83 < 0) by decide) rfl)
                      have t_91 : (M29.2.1 82 (x3.toInt).toNat).toInt = (N.2.1 82 (x3.toInt).toNat).toInt := congrArg Int32.toInt (F_n F27 (show ¬ (82 < 0) by decide) rfl)
                      have t_92 : (M29.2.1 82 (x3.toInt).toNat).toInt = (N.2.1 82 (x3.toInt).toNat).toInt := congrArg Int32.toInt (F_n F27 (show ¬ (82 < 0) by decide) rfl)
                      have t_93 : (M29.2.1 83 (x3.toInt).toNat).toInt = (N.2.1 83 (x3.toInt).toNat).toInt := congrArg Int32.toInt (F_n F27 (show ¬ (83 < 0) by decide) rfl)
                      have s_94 : PV M29 (x4.toInt).toNat = PV N (x4.toInt).toNat := PV_f _ (fun i z => (F_n F27 (show ¬ (118 < 0) by decide) rfl))
                      exact ih.2.2.1 M29 (u1) x3 x4 x5 x6 x7 (.int x8) (.int r26) (.int (0 : Int32)) (.int (0 : Int32)) v88 (u13) hG28 F30 (by omega) (by omega) (by omega) (by omega) (by omega) (by omega) (by omega) (by omega) (by omega) (by omega) (fun i z => by have z2 := g10 i z; rw [(F_n F27 (show ¬ (118 < 0) by decide) rfl)]; omega) (by omega)
                    · refine to_i (pc := 189) rw_237_189 rfl ?_
                      refine to_i (pc := 191) rw_237_191 rfl ?_
                      refine b_cge (pc := 193) rw_237_193 (A := x8.toInt) (B := x5.toInt) rfl rfl (fun h95 => ?_) (fun h95 => ?_)
                      · refine to_c (pc := 200) rw_237_200 (x := (0 : Int32)) rfl rfl ?_
                        refine to_is (pc := 201) rw_237_201 (ls2 := [.ref 77, u1, .int w, .int x3, .int x4, .int x5, .int x6, .int x7, .int x8, .int r26, .int (0 : Int32), .int (0 : Int32), u12, u13]) rfl rfl ?_
                        refine to_i (pc := 203) rw_237_203 rfl ?_
                        refine b_ieq_t (pc := 205) rw_237_205 (A := 0) rfl (by omega) ?_
                        refine to_i (pc := 220) rw_237_220 rfl ?_
                        refine to_c (pc := 222) rw_237_222 (x := (1 : Int32)) rfl rfl ?_
                        refine s_sub (pc := 223) rw_237_223 (A := x4.toInt) (B := 1) rfl rfl (by omega) (fun v96 e97 => ?_)
                        refine to_is (pc := 224) rw_237_224 (ls2 := [.ref 77, u1, .int w, .int x3, .int x4, .int x5, .int x6, .int x7, .int x8, .int r26, .int (0 : Int32), .int (0 : Int32), .int v96, u13]) rfl rfl ?_
                        have t_98 : (M29.2.1 83 (x3.toInt).toNat).toInt = (N.2.1 83 (x3.toInt).toNat).toInt := congrArg Int32.toInt (F_n F27 (show ¬ (83 < 0) by decide) rfl)
                        have t_99 : (M29.2.1 82 (x3.toInt).toNat).toInt = (N.2.1 82 (x3.toInt).toNat).toInt := congrArg Int32.toInt (F_n F27 (show ¬ (82 < 0) by decide) rfl)
                        have t_100 : (M29.2.1 82 (x3.toInt).toNat).toInt = (N.2.1 82 (x3.toInt).toNat).toInt := congrArg Int32.toInt (F_n F27 (show ¬ (82 < 0) by decide) rfl)
                        have t_101 : (M29.2.1 83 (x3.toInt).toNat).toInt = (N.2.1 83 (x3.toInt).toNat).toInt := congrArg Int32.toInt (F_n F27 (show ¬ (83 < 0) by decide) rfl)
                        have s_102 : PV M29 (x4.toInt).toNat = PV N (x4.toInt).toNat := PV_f _ (fun i z => (F_n F27 (show ¬ (118 < 0) by decide) rfl))
                        exact ih.2.2.1 M29 (u1) x3 x4 x5 x6 x7 (.int x8) (.int r26) (.int (0 : Int32)) (.int (0 : Int32)) v96 (u13) hG28 F30 (by omega) (by omega) (by omega) (by omega) (by omega) (by omega) (by omega) (by omega) (by omega) (by omega) (fun i z => by have z2 := g10 i z; rw [(F_n F27 (show ¬ (118 < 0) by decide) rfl)]; omega) (by omega)
                      · refine to_c (pc := 196) rw_237_196 (x := (1 : Int32)) rfl rfl ?_
                        refine to_go (pc := 197) rw_237_197 ?_
                        refine to_is (pc := 201) rw_237_201 (ls2 := [.ref 77, u1, .int w, .int x3, .int x4, .int x5, .int x6, .int x7, .int x8, .int r26, .int (0 : Int32), .int (1 : Int32), u12, u13]) rfl rfl ?_
                        refine to_i (pc := 203) rw_237_203 rfl ?_
                        refine b_ieq_f (pc := 205) rw_237_205 (A := 1) rfl (by omega) ?_
                        refine to_i (pc := 208) rw_237_208 rfl ?_
                        refine to_is (pc := 210) rw_237_210 (ls2 := [.ref 77, u1, .int w, .int x3, .int x4, .int x8, .int x6, .int x7, .int x8, .int r26, .int (0 : Int32), .int (1 : Int32), u12, u13]) rfl rfl ?_
                        refine to_i (pc := 212) rw_237_212 rfl ?_
                        refine to_is (pc := 214) rw_237_214 (ls2 := [.ref 77, u1, .int w, .int x3, .int x4, .int x8, .int r26, .int x7, .int x8, .int r26, .int (0 : Int32), .int (1 : Int32), u12, u13]) rfl rfl ?_
                        refine to_i (pc := 216) rw_237_216 rfl ?_
                        refine to_is (pc := 218) rw_237_218 (ls2 := [.ref 77, u1, .int w, .int x3, .int x4, .int x8, .int r26, .int (0 : Int32), .int x8, .int r26, .int (0 : Int32), .int (1 : Int32), u12, u13]) rfl rfl ?_
                        refine to_i (pc := 220) rw_237_220 rfl ?_
                        refine to_c (pc := 222) rw_237_222 (x := (1 : Int32)) rfl rfl ?_
                        refine s_sub (pc := 223) rw_237_223 (A := x4.toInt) (B := 1) rfl rfl (by omega) (fun v103 e104 => ?_)
                        refine to_is (pc := 224) rw_237_224 (ls2 := [.ref 77, u1, .int w, .int x3, .int x4, .int x8, .int r26, .int (0 : Int32), .int x8, .int r26, .int (0 : Int32), .int (1 : Int32), .int v103, u13]) rfl rfl ?_
                        have k_105 : (0 : Int32).toInt = 0 := rfl
                        have t_106 : (M29.2.1 83 (x3.toInt).toNat).toInt = (N.2.1 83 (x3.toInt).toNat).toInt := congrArg Int32.toInt (F_n F27 (show ¬ (83 < 0) by decide) rfl)
                        have t_107 : (M29.2.1 82 (x3.toInt).toNat).toInt = (N.2.1 82 (x3.toInt).toNat).toInt := congrArg Int32.toInt (F_n F27 (show ¬ (82 < 0) by decide) rfl)
                        have t_108 : (M29.2.1 82 (x3.toInt).toNat).toInt = (N.2.1 82 (x3.toInt).toNat).toInt := congrArg Int32.toInt (F_n F27 (show ¬ (82 < 0) by decide) rfl)
                        have t_109 : (M29.2.1 83 (x3.toInt).toNat).toInt = (N.2.1 83 (x3.toInt).toNat).toInt := congrArg Int32.toInt (F_n F27 (show ¬ (83 < 0) by decide) rfl)
                        have s_110 : PV M29 (x4.toInt).toNat = PV N (x4.toInt).toNat := PV_f _ (fun i z => (F_n F27 (show ¬ (118 < 0) by decide) rfl))
                        exact ih.2.2.1 M29 (u1) x3 x4 x8 r26 (0 : Int32) (.int x8) (.int r26) (.int (0 : Int32)) (.int (1 : Int32)) v103 (u13) hG28 F30 (by omega) (by omega) (by omega) (by omega) (by omega) (by omega) (by omega) (by omega) (by omega) (by omega) (fun i z => by have z2 := g10 i z; rw [(F_n F27 (show ¬ (118 < 0) by decide) rfl)]; omega) (by omega)
          · refine to_an (pc := 137) rw_237_137 rfl ?_
            refine to_in (pc := 138) rw_237_138 rfl ?_
            refine to_an (pc := 139) rw_237_139 rfl ?_
            refine to_in (pc := 140) rw_237_140 rfl ?_
            refine to_i (pc := 141) rw_237_141 rfl ?_
            refine s_v (pc := 143) rw_237_143 (by omega) (ls0 := [.ref 77, .int w, .int x8]) rfl (Nat.le_of_ble_eq_true rfl) (Nat.le_of_ble_eq_true rfl) rfl (to_rc rfl rfl rfl (g_o hG28 rfl)) rfl ?_
            refine to_in (pc := 0) rw_188_0 rfl ?_
            refine s_i2l (pc := 1) rw_188_1 (fun l111 e112 => ?_)
            refine to_an (pc := 2) rw_188_2 rfl ?_
            refine s_gR (pc := 3) rw_188_3 hG28 rfl (v := 82) rfl ?_
            refine to_an (pc := 6) rw_188_6 rfl ?_
            refine s_gR (pc := 7) rw_188_7 hG28 rfl (v := 86) rfl ?_
            refine to_in (pc := 10) rw_188_10 rfl ?_
            refine s_ialk (pc := 11) rw_188_11 hG28 rfl (n := 24) rfl rfl (A := w.toInt) rfl (by omega) (by omega) (v := v20) (F_n F27 (show ¬ (86 < 0) by decide) w_21) ?_
            refine s_ialk (pc := 12) rw_188_12 hG28 rfl (n := 16) rfl rfl (A := v20.toInt) rfl (by omega) (by omega) (v := v22) (F_n F27 (show ¬ (82 < 0) by decide) w_23) ?_
            refine s_anyS (pc := 13) rw_188_13 (fun _ _ => rfl) (fun l117 => ?_)
            refine to_rl (pc := 14) rw_188_14 ?_
            refine s_v (pc := 146) rw_237_146 (by omega) (ls0 := [.ref 77, .int w, .long l117, .null, .null, .null]) rfl (Nat.le_of_ble_eq_true rfl) (Nat.le_of_ble_eq_true rfl) rfl (to_rc rfl rfl rfl (g_o hG28 rfl)) rfl ?_
            refine C_236 hX (by omega) hG28 (w := w) (x := l117) (fun r118 M121 hG120 F119 => ?_)
            have F122 := FR.c F30 F119 tg_271
            refine to_go (pc := 149) rw_237_149 ?_
            refine to_is (pc := 153) rw_237_153 (ls2 := [.ref 77, u1, .int w, .int x3, .int x4, .int x5, .int x6, .int x7, .int x8, .int r26, .int r118, u11, u12, u13]) rfl rfl ?_
            refine to_i (pc := 155) rw_237_155 rfl ?_
            refine to_c (pc := 157) rw_237_157 (x := (-1 : Int32)) rfl rfl ?_
            refine b_ceq (pc := 158) rw_237_158 (A := x5.toInt) (B := -1) rfl rfl (fun h123 => ?_) (fun h123 => ?_)
            · refine to_c (pc := 196) rw_237_196 (x := (1 : Int32)) rfl rfl ?_
              refine to_go (pc := 197) rw_237_197 ?_
              refine to_is (pc := 201) rw_237_201 (ls2 := [.ref 77, u1, .int w, .int x3, .int x4, .int x5, .int x6, .int x7, .int x8, .int r26, .int r118, .int (1 : Int32), u12, u13]) rfl rfl ?_
              refine to_i (pc := 203) rw_237_203 rfl ?_
              refine b_ieq_f (pc := 205) rw_237_205 (A := 1) rfl (by omega) ?_
              refine to_i (pc := 208) rw_237_208 rfl ?_
              refine to_is (pc := 210) rw_237_210 (ls2 := [.ref 77, u1, .int w, .int x3, .int x4, .int x8, .int x6, .int x7, .int x8, .int r26, .int r118, .int (1 : Int32), u12, u13]) rfl rfl ?_
              refine to_i (pc := 212) rw_237_212 rfl ?_
              refine to_is (pc := 214) rw_237_214 (ls2 := [.ref 77, u1, .int w, .int x3, .int x4, .int x8, .int r26, .int x7, .int x8, .int r26, .int r118, .int (1 : Int32), u12, u13]) rfl rfl ?_
              refine to_i (pc := 216) rw_237_216 rfl ?_
              refine to_is (pc := 218) rw_237_218 (ls2 := [.ref 77, u1, .int w, .int x3, .int x4, .int x8, .int r26, .int r118, .int x8, .int r26, .int r118, .int (1 : Int32), u12, u13]) rfl rfl ?_
              refine to_i (pc := 220) rw_237_220 rfl ?_
              refine to_c (pc := 222) rw_237_222 (x := (1 : Int32)) rfl rfl ?_
              refine s_sub (pc := 223) rw_237_223 (A := x4.toInt) (B := 1) rfl rfl (by omega) (fun v124 e125 => ?_)
              refine to_is (pc := 224) rw_237_224 (ls2 := [.ref 77, u1, .int w, .int x3, .int x4, .int x8, .int r26, .int r118, .int x8, .int r26, .int r118, .int (1 : Int32), .int v124, u13]) rfl rfl ?_
              have t_126 : (M121.2.1 83 (x3.toInt).toNat).toInt = (N.2.1 83 (x3.toInt).toNat).toInt := congrArg Int32.toInt (F_n F119 (show ¬ (83 < 0) by decide) (F_n F27 (show ¬ (83 < 0) by decide) rfl))
              have t_127 : (M121.2.1 82 (x3.toInt).toNat).toInt = (N.2.1 82 (x3.toInt).toNat).toInt := congrArg Int32.toInt (F_n F119 (show ¬ (82 < 0) by decide) (F_n F27 (show ¬ (82 < 0) by decide) rfl))
              have t_128 : (M121.2.1 82 (x3.toInt).toNat).toInt = (N.2.1 82 (x3.toInt).toNat).toInt := congrArg Int32.toInt (F_n F119 (show ¬ (82 < 0) by decide) (F_n F27 (show ¬ (82 < 0) by decide) rfl))
              have t_129 : (M121.2.1 83 (x3.toInt).toNat).toInt = (N.2.1 83 (x3.toInt).toNat).toInt := congrArg Int32.toInt (F_n F119 (show ¬ (83 < 0) by decide) (F_n F27 (show ¬ (83 < 0) by decide) rfl))
              have s_130 : PV M121 (x4.toInt).toNat = PV N (x4.toInt).toNat := PV_f _ (fun i z => (F_n F119 (show ¬ (118 < 0) by decide) (F_n F27 (show ¬ (118 < 0) by decide) rfl)))
              exact ih.2.2.1 M121 (u1) x3 x4 x8 r26 r118 (.int x8) (.int r26) (.int r118) (.int (1 : Int32)) v124 (u13) hG120 F122 (by omega) (by omega) (by omega) (by omega) (by omega) (by omega) (by omega) (by omega) (by omega) (by omega) (fun i z => by have z2 := g10 i z; rw [(F_n F119 (show ¬ (118 < 0) by decide) (F_n F27 (show ¬ (118 < 0) by decide) rfl))]; omega) (by omega)
            · refine to_i (pc := 161) rw_237_161 rfl ?_
              refine to_i (pc := 163) rw_237_163 rfl ?_
              refine b_clt (pc := 165) rw_237_165 (A := r26.toInt) (B := x6.toInt) rfl rfl (fun h131 => ?_) (fun h131 => ?_)
              · refine to_c (pc := 196) rw_237_196 (x := (1 : Int32)) rfl rfl ?_
                refine to_go (pc := 197) rw_237_197 ?_
                refine to_is (pc := 201) rw_237_201 (ls2 := [.ref 77, u1, .int w, .int x3, .int x4, .int x5, .int x6, .int x7, .int x8, .int r26, .int r118, .int (1 : Int32), u12, u13]) rfl rfl ?_
                refine to_i (pc := 203) rw_237_203 rfl ?_
                refine b_ieq_f (pc := 205) rw_237_205 (A := 1) rfl (by omega) ?_
                refine to_i (pc := 208) rw_237_208 rfl ?_
                refine to_is (pc := 210) rw_237_210 (ls2 := [.ref 77, u1, .int w, .int x3, .int x4, .int x8, .int x6, .int x7, .int x8, .int r26, .int r118, .int (1 : Int32), u12, u13]) rfl rfl ?_
                refine to_i (pc := 212) rw_237_212 rfl ?_
                refine to_is (pc := 214) rw_237_214 (ls2 := [.ref 77, u1, .int w, .int x3, .int x4, .int x8, .int r26, .int x7, .int x8, .int r26, .int r118, .int (1 : Int32), u12, u13]) rfl rfl ?_
                refine to_i (pc := 216) rw_237_216 rfl ?_
                refine to_is (pc := 218) rw_237_218 (ls2 := [.ref 77, u1, .int w, .int x3, .int x4, .int x8, .int r26, .int r118, .int x8, .int r26, .int r118, .int (1 : Int32), u12, u13]) rfl rfl ?_
                refine to_i (pc := 220) rw_237_220 rfl ?_
                refine to_c (pc := 222) rw_237_222 (x := (1 : Int32)) rfl rfl ?_
                refine s_sub (pc := 223) rw_237_223 (A := x4.toInt) (B := 1) rfl rfl (by omega) (fun v132 e133 => ?_)
                refine to_is (pc := 224) rw_237_224 (ls2 := [.ref 77, u1, .int w, .int x3, .int x4, .int x8, .int r26, .int r118, .int x8, .int r26, .int r118, .int (1 : Int32), .int v132, u13]) rfl rfl ?_
                have t_134 : (M121.2.1 83 (x3.toInt).toNat).toInt = (N.2.1 83 (x3.toInt).toNat).toInt := congrArg Int32.toInt (F_n F119 (show ¬ (83 < 0) by decide) (F_n F27 (show ¬ (83 < 0) by decide) rfl))
                have t_135 : (M121.2.1 82 (x3.toInt).toNat).toInt = (N.2.1 82 (x3.toInt).toNat).toInt := congrArg Int32.toInt (F_n F119 (show ¬ (82 < 0) by decide) (F_n F27 (show ¬ (82 < 0) by decide) rfl))
                have t_136 : (M121.2.1 82 (x3.toInt).toNat).toInt = (N.2.1 82 (x3.toInt).toNat).toInt := congrArg Int32.toInt (F_n F119 (show ¬ (82 < 0) by decide) (F_n F27 (show ¬ (82 < 0) by decide) rfl))
                have t_137 : (M121.2.1 83 (x3.toInt).toNat).toInt = (N.2.1 83 (x3.toInt).toNat).toInt := congrArg Int32.toInt (F_n F119 (show ¬ (83 < 0) by decide) (F_n F27 (show ¬ (83 < 0) by decide) rfl))
                have s_138 : PV M121 (x4.toInt).toNat = PV N (x4.toInt).toNat := PV_f _ (fun i z => (F_n F119 (show ¬ (118 < 0) by decide) (F_n F27 (show ¬ (118 < 0) by decide) rfl)))
                exact ih.2.2.1 M121 (u1) x3 x4 x8 r26 r118 (.int x8) (.int r26) (.int r118) (.int (1 : Int32)) v132 (u13) hG120 F122 (by omega) (by omega) (by omega) (by omega) (by omega) (by omega) (by omega) (by omega) (by omega) (by omega) (fun i z => by have z2 := g10 i z; rw [(F_n F119 (show ¬ (118 < 0) by decide) (F_n F27 (show ¬ (118 < 0) by decide) rfl))]; omega) (by omega)
              · refine to_i (pc := 168) rw_237_168 rfl ?_
                refine to_i (pc := 170) rw_237_170 rfl ?_
                refine b_cne (pc := 172) rw_237_172 (A := r26.toInt) (B := x6.toInt) rfl rfl (fun h139 => ?_) (fun h139 => ?_)
                · refine to_c (pc := 200) rw_237_200 (x := (0 : Int32)) rfl rfl ?_
                  refine to_is (pc := 201) rw_237_201 (ls2 := [.ref 77, u1, .int w, .int x3, .int x4, .int x5, .int x6, .int x7, .int x8, .int r26, .int r118, .int (0 : Int32), u12, u13]) rfl rfl ?_
                  refine to_i (pc := 203) rw_237_203 rfl ?_
                  refine b_ieq_t (pc := 205) rw_237_205 (A := 0) rfl (by omega) ?_
                  refine to_i (pc := 220) rw_237_220 rfl ?_
                  refine to_c (pc := 222) rw_237_222 (x := (1 : Int32)) rfl rfl ?_
                  refine s_sub (pc := 223) rw_237_223 (A := x4.toInt) (B := 1) rfl rfl (by omega) (fun v140 e141 => ?_)
                  refine to_is (pc := 224) rw_237_224 (ls2 := [.ref 77, u1, .int w, .int x3, .int x4, .int x5, .int x6, .int x7, .int x8, .int r26, .int r118, .int (0 : Int32), .int v140, u13]) rfl rfl ?_
                  have t_142 : (M121.2.1 83 (x3.toInt).toNat).toInt = (N.2.1 83 (x3.toInt).toNat).toInt := congrArg Int32.toInt (F_n F119 (show ¬ (83 < 0) by decide) (F_n F27 (show ¬ (83 < 0) by decide) rfl))
                  have t_143 : (M121.2.1 82 (x3.toInt).toNat).toInt = (N.2.1 82 (x3.toInt).toNat).toInt := congrArg Int32.toInt (F_n F119 (show ¬ (82 < 0) by decide) (F_n F27 (show ¬ (82 < 0) by decide) rfl))
                  have t_144 : (M121.2.1 82 (x3.toInt).toNat).toInt = (N.2.1 82 (x3.toInt).toNat).toInt := congrArg Int32.toInt (F_n F119 (show ¬ (82 < 0) by decide) (F_n F27 (show ¬ (82 < 0) by decide) rfl))
                  have t_145 : (M121.2.1 83 (x3.toInt).toNat).toInt = (N.2.1 83 (x3.toInt).toNat).toInt := congrArg Int32.toInt (F_n F119 (show ¬ (83 < 0) by decide) (F_n F27 (show ¬ (83 < 0) by decide) rfl))
                  have s_146 : PV M121 (x4.toInt).toNat = PV N (x4.toInt).toNat := PV_f _ (fun i z => (F_n F119 (show ¬ (118 < 0) by decide) (F_n F27 (show ¬ (118 < 0) by decide) rfl)))
                  exact ih.2.2.1 M121 (u1) x3 x4 x5 x6 x7 (.int x8) (.int r26) (.int r118) (.int (0 : Int32)) v140 (u13) hG120 F122 (by omega) (by omega) (by omega) (by omega) (by omega) (by omega) (by omega) (by omega) (by omega) (by omega) (fun i z => by have z2 := g10 i z; rw [(F_n F119 (show ¬ (118 < 0) by decide) (F_n F27 (show ¬ (118 < 0) by decide) rfl))]; omega) (by omega)
                · refine to_i (pc := 175) rw_237_175 rfl ?_
                  refine to_i (pc := 177) rw_237_177 rfl ?_
                  refine b_clt (pc := 179) rw_237_179 (A := r118.toInt) (B := x7.toInt) rfl rfl (fun h147 => ?_) (fun h147 => ?_)
                  · refine to_c (pc := 196) rw_237_196 (x := (1 : Int32)) rfl rfl ?_
                    refine to_go (pc := 197) rw_237_197 ?_
                    refine to_is (pc := 201) rw_237_201 (ls2 := [.ref 77, u1, .int w, .int x3, .int x4, .int x5, .int x6, .int x7, .int x8, .int r26, .int r118, .int (1 : Int32), u12, u13]) rfl rfl ?_
                    refine to_i (pc := 203) rw_237_203 rfl ?_
                    refine b_ieq_f (pc := 205) rw_237_205 (A := 1) rfl (by omega) ?_
                    refine to_i (pc := 208) rw_237_208 rfl ?_
                    refine to_is (pc := 210) rw_237_210 (ls2 := [.ref 77, u1, .int w, .int x3, .int x4, .int x8, .int x6, .int x7, .int x8, .int r26, .int r118, .int (1 : Int32), u12, u13]) rfl rfl ?_
                    refine to_i (pc := 212) rw_237_212 rfl ?_
                    refine to_is (pc := 214) rw_237_214 (ls2 := [.ref 77, u1, .int w, .int x3, .int x4, .int x8, .int r26, .int x7, .int x8, .int r26, .int r118, .int (1 : Int32), u12, u13]) rfl rfl ?_
                    refine to_i (pc := 216) rw_237_216 rfl ?_
                    refine to_is (pc := 218) rw_237_218 (ls2 := [.ref 77, u1, .int w, .int x3, .int x4, .int x8, .int r26, .int r118, .int x8, .int r26, .int r118, .int (1 : Int32), u12, u13]) rfl rfl ?_
                    refine to_i (pc := 220) rw_237_220 rfl ?_
                    refine to_c (pc := 222) rw_237_222 (x := (1 : Int32)) rfl rfl ?_
                    refine s_sub (pc := 223) rw_237_223 (A := x4.toInt) (B := 1) rfl rfl (by omega) (fun v148 e149 => ?_)
                    refine to_is (pc := 224) rw_237_224 (ls2 := [.ref 77, u1, .int w, .int x3, .int x4, .int x8, .int r26, .int r118, .int x8, .int r26, .int r118, .int (1 : Int32), .int v148, u13]) rfl rfl ?_
                    have t_150 : (M121.2.1 83 (x3.toInt).toNat).toInt = (N.2.1 83 (x3.toInt).toNat).toInt := congrArg Int32.toInt (F_n F119 (show ¬ (83 < 0) by decide) (F_n F27 (show ¬ (83 < 0) by decide) rfl))
                    have t_151 : (M121.2.1 82 (x3.toInt).toNat).toInt = (N.2.1 82 (x3.toInt).toNat).toInt := congrArg Int32.toInt (F_n F119 (show ¬ (82 < 0) by decide) (F_n F27 (show ¬ (82 < 0) by decide) rfl))
                    have t_152 : (M121.2.1 82 (x3.toInt).toNat).toInt = (N.2.1 82 (x3.toInt).toNat).toInt := congrArg Int32.toInt (F_n F119 (show ¬ (82 < 0) by decide) (F_n F27 (show ¬ (82 < 0) by decide) rfl))
                    have t_153 : (M121.2.1 83 (x3.toInt).toNat).toInt = (N.2.1 83 (x3.toInt).toNat).toInt := congrArg Int32.toInt (F_n F119 (show ¬ (83 < 0) by decide) (F_n F27 (show ¬ (83 < 0) by decide) rfl))
                    have s_154 : PV M121 (x4.toInt).toNat = PV N (x4.toInt).toNat := PV_f _ (fun i z => (F_n F119 (show ¬ (118 < 0) by decide) (F_n F27 (show ¬ (118 < 0) by decide) rfl)))
                    exact ih.2.2.1 M121 (u1) x3 x4 x8 r26 r118 (.int x8) (.int r26) (.int r118) (.int (1 : Int32)) v148 (u13) hG120 F122 (by omega) (by omega) (by omega) (by omega) (by omega) (by omega) (by omega) (by omega) (by omega) (by omega) (fun i z => by have z2 := g10 i z; rw [(F_n F119 (show ¬ (118 < 0) by decide) (F_n F27 (show ¬ (118 < 0) by decide) rfl))]; omega) (by omega)
                  · refine to_i (pc := 182) rw_237_182 rfl ?_
                    refine to_i (pc := 184) rw_237_184 rfl ?_
                    refine b_cne (pc := 186) rw_237_186 (A := r118.toInt) (B := x7.toInt) rfl rfl (fun h155 => ?_) (fun h155 => ?_)
                    · refine to_c (pc := 200) rw_237_200 (x := (0 : Int32)) rfl rfl ?_
                      refine to_is (pc := 201) rw_237_201 (ls2 := [.ref 77, u1, .int w, .int x3, .int x4, .int x5, .int x6, .int x7, .int x8, .int r26, .int r118, .int (0 : Int32), u12, u13]) rfl rfl ?_
                      refine to_i (pc := 203) rw_237_203 rfl ?_
                      refine b_ieq_t (pc := 205) rw_237_205 (A := 0) rfl (by omega) ?_
                      refine to_i (pc := 220) rw_237_220 rfl ?_
                      refine to_c (pc := 222) rw_237_222 (x := (1 : Int32)) rfl rfl ?_
                      refine s_sub (pc := 223) rw_237_223 (A := x4.toInt) (B := 1) rfl rfl (by omega) (fun v156 e157 => ?_)
                      refine to_is (pc := 224) rw_237_224 (ls2 := [.ref 77, u1, .int w, .int x3, .int x4, .int x5, .int x6, .int x7, .int x8, .int r26, .int r118, .int (0 : Int32), .int v156, u13]) rfl rfl ?_
                      have t_158 : (M121.2.1 83 (x3.toInt).toNat).toInt = (N.2.1 83 (x3.toInt).toNat).toInt := congrArg Int32.toInt (F_n F119 (show ¬ (83 < 0) by decide) (F_n F27 (show ¬ (83 < 0) by decide) rfl))
                      have t_159 : (M121.2.1 82 (x3.toInt).toNat).toInt = (N.2.1 82 (x3.toInt).toNat).toInt := congrArg Int32.toInt (F_n F119 (show ¬ (82 < 0) by decide) (F_n F27 (show ¬ (82 < 0) by decide) rfl))
                      have t_160 : (M121.2.1 82 (x3.toInt).toNat).toInt = (N.2.1 82 (x3.toInt).toNat).toInt := congrArg Int32.toInt (F_n F119 (show ¬ (82 < 0) by decide) (F_n F27 (show ¬ (82 < 0) by decide) rfl))
                      have t_161 : (M121.2.1 83 (x3.toInt).toNat).toInt = (N.2.1 83 (x3.toInt).toNat).toInt := congrArg Int32.toInt (F_n F119 (show ¬ (83 < 0) by decide) (F_n F27 (show ¬ (83 < 0) by decide) rfl))
                      have s_162 : PV M121 (x4.toInt).toNat = PV N (x4.toInt).toNat := PV_f _ (fun i z => (F_n F119 (show ¬ (118 < 0) by decide) (F_n F27 (show ¬ (118 < 0) by decide) rfl)))
                      exact ih.2.2.1 M121 (u1) x3 x4 x5 x6 x7 (.int x8) (.int r26) (.int r118) (.int (0 : Int32)) v156 (u13) hG120 F122 (by omega) (by omega) (by omega) (by omega) (by omega) (by omega) (by omega) (by omega) (by omega) (by omega) (fun i z => by have z2 := g10 i z; rw [(F_n F119 (show ¬ (118 < 0) by decide) (F_n F27 (show ¬ (118 < 0) by decide) rfl))]; omega) (by omega)
                    · refine to_i (pc := 189) rw_237_189 rfl ?_
                      refine to_i (pc := 191) rw_237_191 rfl ?_
                      refine b_cge (pc := 193) rw_237_193 (A := x8.toInt) (B := x5.toInt) rfl rfl (fun h163 => ?_) (fun h163 => ?_)
                      · refine to_c (pc := 200) rw_237_200 (x := (0 : Int32)) rfl rfl ?_
                        refine to_is (pc := 201) rw_237_201 (ls2 := [.ref 77, u1, .int w, .int x3, .int x4, .int x5, .int x6, .int x7, .int x8, .int r26, .int r118, .int (0 : Int32), u12, u13]) rfl rfl ?_
                        refine to_i (pc := 203) rw_237_203 rfl ?_
                        refine b_ieq_t (pc := 205) rw_237_205 (A := 0) rfl (by omega) ?_
                        refine to_i (pc := 220) rw_237_220 rfl ?_
                        refine to_c (pc := 222) rw_237_222 (x := (1 : Int32)) rfl rfl ?_
                        refine s_sub (pc := 223) rw_237_223 (A := x4.toInt) (B := 1) rfl rfl (by omega) (fun v164 e165 => ?_)
                        refine to_is (pc := 224) rw_237_224 (ls2 := [.ref 77, u1, .int w, .int x3, .int x4, .int x5, .int x6, .int x7, .int x8, .int r26, .int r118, .int (0 : Int32), .int v164, u13]) rfl rfl ?_
                        have t_166 : (M121.2.1 83 (x3.toInt).toNat).toInt = (N.2.1 83 (x3.toInt).toNat).toInt := congrArg Int32.toInt (F_n F119 (show ¬ (83 < 0) by decide) (F_n F27 (show ¬ (83 < 0) by decide) rfl))
                        have t_167 : (M121.2.1 82 (x3.toInt).toNat).toInt = (N.2.1 82 (x3.toInt).toNat).toInt := congrArg Int32.toInt (F_n F119 (show ¬ (82 < 0) by decide) (F_n F27 (show ¬ (82 < 0) by decide) rfl))
                        have t_168 : (M121.2.1 82 (x3.toInt).toNat).toInt = (N.2.1 82 (x3.toInt).toNat).toInt := congrArg Int32.toInt (F_n F119 (show ¬ (82 < 0) by decide) (F_n F27 (show ¬ (82 < 0) by decide) rfl))
                        have t_169 : (M121.2.1 83 (x3.toInt).toNat).toInt = (N.2.1 83 (x3.toInt).toNat).toInt := congrArg Int32.toInt (F_n F119 (show ¬ (83 < 0) by decide) (F_n F27 (show ¬ (83 < 0) by decide) rfl))
                        have s_170 : PV M121 (x4.toInt).toNat = PV N (x4.toInt).toNat := PV_f _ (fun i z => (F_n F119 (show ¬ (118 < 0) by decide) (F_n F27 (show ¬ (118 < 0) by decide) rfl)))
                        exact ih.2.2.1 M121 (u1) x3 x4 x5 x6 x7 (.int x8) (.int r26) (.int r118) (.int (0 : Int32)) v164 (u13) hG120 F122 (by omega) (by omega) (by omega) (by omega) (by omega) (by omega) (by omega) (by omega) (by omega) (by omega) (fun i z => by have z2 := g10 i z; rw [(F_n F119 (show ¬ (118 < 0) by decide) (F_n F27 (show ¬ (118 < 0) by decide) rfl))]; omega) (by omega)
                      · refine to_c (pc := 196) rw_237_196 (x := (1 : Int32)) rfl rfl ?_
                        refine to_go (pc := 197) rw_237_197 ?_
                        refine to_is (pc := 201) rw_237_201 (ls2 := [.ref 77, u1, .int w, .int x3, .int x4, .int x5, .int x6, .int x7, .int x8, .int r26, .int r118, .int (1 : Int32), u12, u13]) rfl rfl ?_
                        refine to_i (pc := 203) rw_237_203 rfl ?_
                        refine b_ieq_f (pc := 205) rw_237_205 (A := 1) rfl (by omega) ?_
                        refine to_i (pc := 208) rw_237_208 rfl ?_
                        refine to_is (pc := 210) rw_237_210 (ls2 := [.ref 77, u1, .int w, .int x3, .int x4, .int x8, .int x6, .int x7, .int x8, .int r26, .int r118, .int (1 : Int32), u12, u13]) rfl rfl ?_
                        refine to_i (pc := 212) rw_237_212 rfl ?_
                        refine to_is (pc := 214) rw_237_214 (ls2 := [.ref 77, u1, .int w, .int x3, .int x4, .int x8, .int r26, .int x7, .int x8, .int r26, .int r118, .int (1 : Int32), u12, u13]) rfl rfl ?_
                        refine to_i (pc := 216) rw_237_216 rfl ?_
                        refine to_is (pc := 218) rw_237_218 (ls2 := [.ref 77, u1, .int w, .int x3, .int x4, .int x8, .int r26, .int r118, .int x8, .int r26, .int r118, .int (1 : Int32), u12, u13]) rfl rfl ?_
                        refine to_i (pc := 220) rw_237_220 rfl ?_
                        refine to_c (pc := 222) rw_237_222 (x := (1 : Int32)) rfl rfl ?_
                        refine s_sub (pc := 223) rw_237_223 (A := x4.toInt) (B := 1) rfl rfl (by omega) (fun v171 e172 => ?_)
                        refine to_is (pc := 224) rw_237_224 (ls2 := [.ref 77, u1, .int w, .int x3, .int x4, .int x8, .int r26, .int r118, .int x8, .int r26, .int r118, .int (1 : Int32), .int v171, u13]) rfl rfl ?_
                        have t_173 : (M121.2.1 83 (x3.toInt).toNat).toInt = (N.2.1 83 (x3.toInt).toNat).toInt := congrArg Int32.toInt (F_n F119 (show ¬ (83 < 0) by decide) (F_n F27 (show ¬ (83 < 0) by decide) rfl))
                        have t_174 : (M121.2.1 82 (x3.toInt).toNat).toInt = (N.2.1 82 (x3.toInt).toNat).toInt := congrArg Int32.toInt (F_n F119 (show ¬ (82 < 0) by decide) (F_n F27 (show ¬ (82 < 0) by decide) rfl))
                        have t_175 : (M121.2.1 82 (x3.toInt).toNat).toInt = (N.2.1 82 (x3.toInt).toNat).toInt := congrArg Int32.toInt (F_n F119 (show ¬ (82 < 0) by decide) (F_n F27 (show ¬ (82 < 0) by decide) rfl))
                        have t_176 : (M121.2.1 83 (x3.toInt).toNat).toInt = (N.2.1 83 (x3.toInt).toNat).toInt := congrArg Int32.toInt (F_n F119 (show ¬ (83 < 0) by decide) (F_n F27 (show ¬ (83 < 0) by decide) rfl))
                        have s_177 : PV M121 (x4.toInt).toNat = PV N (x4.toInt).toNat := PV_f _ (fun i z => (F_n F119 (show ¬ (118 < 0) by decide) (F_n F27 (show ¬ (118 < 0) by decide) rfl)))
                        exact ih.2.2.1 M121 (u1) x3 x4 x8 r26 r118 (.int x8) (.int r26) (.int r118) (.int (1 : Int32)) v171 (u13) hG120 F122 (by omega) (by omega) (by omega) (by omega) (by omega) (by omega) (by omega) (by omega) (by omega) (by omega) (fun i z => by have z2 := g10 i z; rw [(F_n F119 (show ¬ (118 < 0) by decide) (F_n F27 (show ¬ (118 < 0) by decide) rfl))]; omega) (by omega)
      · refine to_i (pc := 90) rw_237_90 rfl ?_
        refine to_c (pc := 92) rw_237_92 (x := (1 : Int32)) rfl rfl ?_
        refine to_an (pc := 93) rw_237_93 rfl ?_
        refine s_gR (pc := 94) rw_237_94 hG rfl (v := 118) rfl ?_
        refine to_i (pc := 97) rw_237_97 rfl ?_
        refine s_ial (pc := 99) rw_237_99 hG rfl (n := 4) rfl rfl (A := x9.toInt) rfl (by omega) (by omega) (lo := 0) (hi := 63) rfl rfl (fun v178 w_179 _ _ => ?_)
        refine s_any (pc := 100) rw_237_100 (fun _ _ => rfl) (fun v180 => ?_)
        refine s_any (pc := 101) rw_237_101 (fun _ _ => rfl) (fun v181 => ?_)
        refine to_is (pc := 102) rw_237_102 (ls2 := [.ref 77, u1, .int w, .int x3, .int x4, .int x5, .int x6, .int x7, .int v181, .int x9, u10, u11, u12, u13]) rfl rfl ?_
        refine s_inc (pc := 104) rw_237_104 (ls2 := fun v => [.ref 77, u1, .int w, .int x3, .int x4, .int x5, .int x6, .int x7, .int v181, .int v, u10, u11, u12, u13]) rfl rfl (fun _ => rfl) (A := x9.toInt) (B := 1) rfl rfl (by omega) (fun v182 e183 => ?_)
        refine to_go (pc := 107) rw_237_107 ?_
        exact ih.2.1 N (u1) x3 x4 x5 x6 x7 v181 v182 (u10) (u11) (u12) (u13) hG F0 (by omega) (by omega) (by omega) (by omega) (by omega) (by omega) (by omega) (by omega) (by omega) g10 (by omega)
    · intro N u1 x3 x4 x5 x6 x7 u8 u9 u10 u11 x12 u13 hG F0 g1 g2 g3 g4 g5 g6 g7 g8 g9 g10 g11 hm
      have s_184 := PV_b hG (x4.toInt).toNat
      have s_185 := pw_4 (k := (x4.toInt).toNat) (by omega)
      have s_186 := g_b hG (a := 83) (i := (x3.toInt).toNat) (lo := 0) (hi := 63) rfl rfl
      have s_187 := g_b hG (a := 82) (i := (x3.toInt).toNat) (lo := 0) (hi := 59) rfl rfl
      refine to_i (pc := 226) rw_237_226 rfl ?_
      refine b_ilt (pc := 228) rw_237_228 (A := x12.toInt) rfl (fun h188 => ?_) (fun h188 => ?_)
      · refine to_i (pc := 258) rw_237_258 rfl ?_
        refine b_ige_f (pc := 260) rw_237_260 (A := x12.toInt) rfl (by omega) ?_
        refine to_i (pc := 263) rw_237_263 rfl ?_
        refine to_r0 (pc := 265) rw_237_265 ?_
        exact h x5 N hG F0 
      · refine to_an (pc := 231) rw_237_231 rfl ?_
        refine s_gR (pc := 232) rw_237_232 hG rfl (v := 118) rfl ?_
        refine to_i (pc := 235) rw_237_235 rfl ?_
        refine s_ial (pc := 237) rw_237_237 hG rfl (n := 4) rfl rfl (A := x12.toInt) rfl (by omega) (by omega) (lo := 0) (hi := 63) rfl rfl (fun v189 w_190 _ _ => ?_)
        have s_191 := g11 (x12.toInt).toNat (by omega)
        rw [w_190] at s_191
        have s_192 := congrArg Int32.toInt w_190
        refine to_an (pc := 238) rw_237_238 rfl ?_
        refine to_in (pc := 239) rw_237_239 rfl ?_
        refine s_v (pc := 240) rw_237_240 (by omega) (ls0 := [.ref 77, .int x3]) rfl (Nat.le_of_ble_eq_true rfl) (Nat.le_of_ble_eq_true rfl) rfl (to_rc rfl rfl rfl (g_o hG rfl)) rfl ?_
        refine to_an (pc := 0) rw_197_0 rfl ?_
        refine s_gR (pc := 1) rw_197_1 hG rfl (v := 83) rfl ?_
        refine to_in (pc := 4) rw_197_4 rfl ?_
        refine s_ial (pc := 5) rw_197_5 hG rfl (n := 16) rfl rfl (A := x3.toInt) rfl (by omega) (by omega) (lo := 0) (hi := 63) rfl rfl (fun v193 w_194 _ _ => ?_)
        have t_195 := congrArg Int32.toInt w_194
        refine to_an (pc := 6) rw_197_6 rfl ?_
        refine s_gR (pc := 7) rw_197_7 hG rfl (v := 82) rfl ?_
        refine to_in (pc := 10) rw_197_10 rfl ?_
        refine s_ial (pc := 11) rw_197_11 hG rfl (n := 16) rfl rfl (A := x3.toInt) rfl (by omega) (by omega) (lo := 0) (hi := 59) rfl rfl (fun v196 w_197 _ _ => ?_)
        have t_198 := congrArg Int32.toInt w_197
        refine s_sub (pc := 12) rw_197_12 (A := v193.toInt) (B := v196.toInt) rfl rfl (by omega) (fun v199 e200 => ?_)
        refine to_c (pc := 13) rw_197_13 (x := (1 : Int32)) rfl rfl ?_
        refine s_add (pc := 14) rw_197_14 (A := v199.toInt) (B := 1) rfl rfl (by omega) (fun v201 e202 => ?_)
        refine to_r0 (pc := 15) rw_197_15 ?_
        refine to_i (pc := 243) rw_237_243 rfl ?_
        refine s_sub (pc := 245) rw_237_245 (A := v201.toInt) (B := x4.toInt) rfl rfl (by omega) (fun v203 e204 => ?_)
        refine to_i (pc := 246) rw_237_246 rfl ?_
        refine s_add (pc := 248) rw_237_248 (A := v203.toInt) (B := x12.toInt) rfl rfl (by omega) (fun v205 e206 => ?_)
        refine b_cne (pc := 249) rw_237_249 (A := v189.toInt) (B := v205.toInt) rfl rfl (fun h207 => ?_) (fun h207 => ?_)
        · refine to_i (pc := 258) rw_237_258 rfl ?_
          refine b_ige_t (pc := 260) rw_237_260 (A := x12.toInt) rfl (by omega) ?_
          refine to_an (pc := 266) rw_237_266 rfl ?_
          refine s_gR (pc := 267) rw_237_267 hG rfl (v := 118) rfl ?_
          refine to_i (pc := 270) rw_237_270 rfl ?_
          refine to_dup2 (pc := 272) rw_237_272 ?_
          refine s_ialk (pc := 273) rw_237_273 hG rfl (n := 4) rfl rfl (A := x12.toInt) rfl (by omega) (by omega) (v := v189) w_190 ?_
          refine to_c (pc := 274) rw_237_274 (x := (1 : Int32)) rfl rfl ?_
          refine s_add (pc := 275) rw_237_275 (A := v189.toInt) (B := 1) rfl rfl (by omega) (fun v210 e211 => ?_)
          refine s_ias (pc := 276) rw_237_276 hG rfl (n := 4) rfl (A := x12.toInt) rfl (by omega) (by omega) (fun M213 W212 => ?_)
          have hG214 := g_w hG W212 (A := v210.toInt) rfl (lo := 0) (hi := 63) rfl rfl (by omega) (by decide)
          have F215 := FR.w F0 W212 (show 118 = 77 ∧ (x12.toInt).toNat = 2 ∨ 94 ≤ 118 ∧ 118 ≤ 98 ∨ 118 = 118 by omega)
          refine to_i (pc := 277) rw_237_277 rfl ?_
          refine to_c (pc := 279) rw_237_279 (x := (1 : Int32)) rfl rfl ?_
          refine s_add (pc := 280) rw_237_280 (A := x12.toInt) (B := 1) rfl rfl (by omega) (fun v216 e217 => ?_)
          refine to_is (pc := 281) rw_237_281 (ls2 := [.ref 77, u1, .int w, .int x3, .int x4, .int x5, .int x6, .int x7, u8, u9, u10, u11, .int x12, .int v216]) rfl rfl ?_
          have t_218 : (M213.2.1 83 (x3.toInt).toNat).toInt = (N.2.1 83 (x3.toInt).toNat).toInt := congrArg Int32.toInt (W_n W212 (by omega) rfl)
          have t_219 : (M213.2.1 82 (x3.toInt).toNat).toInt = (N.2.1 82 (x3.toInt).toNat).toInt := congrArg Int32.toInt (W_n W212 (by omega) rfl)
          have t_220 : (M213.2.1 82 (x3.toInt).toNat).toInt = (N.2.1 82 (x3.toInt).toNat).toInt := congrArg Int32.toInt (W_n W212 (by omega) rfl)
          have t_221 : (M213.2.1 83 (x3.toInt).toNat).toInt = (N.2.1 83 (x3.toInt).toNat).toInt := congrArg Int32.toInt (W_n W212 (by omega) rfl)
          have s_222 : (M213.2.1 118 (x12.toInt).toNat).toInt = v210.toInt := congrArg Int32.toInt (W_e W212)
          have s_223 := PW_inc (M := N) (M1 := M213) hG (i := (x12.toInt).toNat) (k := (x4.toInt).toNat) (by omega) (fun i z => (W_n W212 (by omega) rfl)) (by rw [(W_e W212)]; omega)
          have s_224 : PW M213 (v216.toInt).toNat (x4.toInt).toNat = PW M213 ((x12.toInt).toNat + 1) (x4.toInt).toNat := by rw [show (v216.toInt).toNat = (x12.toInt).toNat + 1 by omega]
          exact ih.2.2.2 M213 (u1) x3 x4 x5 x6 x7 (u8) (u9) (u10) (u11) (.int x12) v216 hG214 F215 (by omega) (by omega) (by omega) (by omega) (by omega) (by omega) (by omega) (by omega) (by omega) (by omega) (fun i z => by
              by_cases ei : i = (x12.toInt).toNat
              · rw [ei]; omega
              · have z2 := g11 i (by omega)
                rw [(W_n W212 (by omega) rfl)]; omega) (by omega)
        · refine s_inc (pc := 252) rw_237_252 (ls2 := fun v => [.ref 77, u1, .int w, .int x3, .int x4, .int x5, .int x6, .int x7, u8, u9, u10, u11, .int v, u13]) rfl rfl (fun _ => rfl) (A := x12.toInt) (B := -1) rfl rfl (by omega) (fun v225 e226 => ?_)
          refine to_go (pc := 255) rw_237_255 ?_
          exact ih.2.2.1 N (u1) x3 x4 x5 x6 x7 (u8) (u9) (u10) (u11) v225 (u13) hG F0 (by omega) (by omega) (by omega) (by omega) (by omega) (by omega) (by omega) (by omega) (by omega) (by omega) g11 (by omega)
    · intro N u1 x3 x4 x5 x6 x7 u8 u9 u10 u11 u12 x13 hG F0 g1 g2 g3 g4 g5 g6 g7 g8 g9 g10 g11 hm
      have s_227 := PW_b hG (j := (x13.toInt).toNat) (k := (x4.toInt).toNat) (by omega) (by omega)
      have s_228 := g_b hG (a := 83) (i := (x3.toInt).toNat) (lo := 0) (hi := 63) rfl rfl
      have s_229 := g_b hG (a := 82) (i := (x3.toInt).toNat) (lo := 0) (hi := 59) rfl rfl
      refine to_i (pc := 283) rw_237_283 rfl ?_
      refine to_i (pc := 285) rw_237_285 rfl ?_
      refine b_cge (pc := 287) rw_237_287 (A := x13.toInt) (B := x4.toInt) rfl rfl (fun h230 => ?_) (fun h230 => ?_)
      · refine to_go (pc := 314) rw_237_314 ?_
        have s_231 : PW N (x13.toInt).toNat (x4.toInt).toNat = PV N (x4.toInt).toNat := by rw [show (x13.toInt).toNat = (x4.toInt).toNat by omega]; exact PW_k
        exact ih.1 N (u1) x3 x4 x5 x6 x7 (u8) (u9) (u10) (u11) (u12) (.int x13) hG F0 (by omega) (by omega) (by omega) (by omega) (by omega) (by omega) (by omega) (fun i z => g11 i (by omega)) (by omega)
      · refine to_an (pc := 290) rw_237_290 rfl ?_
        refine s_gR (pc := 291) rw_237_291 hG rfl (v := 118) rfl ?_
        refine to_i (pc := 294) rw_237_294 rfl ?_
        refine to_an (pc := 296) rw_237_296 rfl ?_
        refine s_gR (pc := 297) rw_237_297 hG rfl (v := 118) rfl ?_
        refine to_i (pc := 300) rw_237_300 rfl ?_
        refine to_c (pc := 302) rw_237_302 (x := (1 : Int32)) rfl rfl ?_
        refine s_sub (pc := 303) rw_237_303 (A := x13.toInt) (B := 1) rfl rfl (by omega) (fun v232 e233 => ?_)
        refine s_ial (pc := 304) rw_237_304 hG rfl (n := 4) rfl rfl (A := v232.toInt) rfl (by omega) (by omega) (lo := 0) (hi := 63) rfl rfl (fun v234 w_235 _ _ => ?_)
        have s_236 := g11 (v232.toInt).toNat (by omega)
        rw [w_235] at s_236
        have s_237 := congrArg Int32.toInt w_235
        refine to_c (pc := 305) rw_237_305 (x := (1 : Int32)) rfl rfl ?_
        refine s_add (pc := 306) rw_237_306 (A := v234.toInt) (B := 1) rfl rfl (by omega) (fun v238 e239 => ?_)
        refine s_ias (pc := 307) rw_237_307 hG rfl (n := 4) rfl (A := x13.toInt) rfl (by omega) (by omega) (fun M241 W240 => ?_)
        have hG242 := g_w hG W240 (A := v238.toInt) rfl (lo := 0) (hi := 63) rfl rfl (by omega) (by decide)
        have F243 := FR.w F0 W240 (show 118 = 77 ∧ (x13.toInt).toNat = 2 ∨ 94 ≤ 118 ∧ 118 ≤ 98 ∨ 118 = 118 by omega)
        refine s_inc (pc := 308) rw_237_308 (ls2 := fun v => [.ref 77, u1, .int w, .int x3, .int x4, .int x5, .int x6, .int x7, u8, u9, u10, u11, u12, .int v]) rfl rfl (fun _ => rfl) (A := x13.toInt) (B := 1) rfl rfl (by omega) (fun v244 e245 => ?_)
        refine to_go (pc := 311) rw_237_311 ?_
        have t_246 : (M241.2.1 83 (x3.toInt).toNat).toInt = (N.2.1 83 (x3.toInt).toNat).toInt := congrArg Int32.toInt (W_n W240 (by omega) rfl)
        have t_247 : (M241.2.1 82 (x3.toInt).toNat).toInt = (N.2.1 82 (x3.toInt).toNat).toInt := congrArg Int32.toInt (W_n W240 (by omega) rfl)
        have t_248 : (M241.2.1 82 (x3.toInt).toNat).toInt = (N.2.1 82 (x3.toInt).toNat).toInt := congrArg Int32.toInt (W_n W240 (by omega) rfl)
        have t_249 : (M241.2.1 83 (x3.toInt).toNat).toInt = (N.2.1 83 (x3.toInt).toNat).toInt := congrArg Int32.toInt (W_n W240 (by omega) rfl)
        have s_250 : (M241.2.1 118 (x13.toInt).toNat).toInt = v238.toInt := congrArg Int32.toInt (W_e W240)
        have s_251 : PW M241 (x13.toInt).toNat (x4.toInt).toNat = PW N (x13.toInt).toNat (x4.toInt).toNat := PW_f (fun i z => (W_n W240 (by omega) rfl))
        have s_252 := PW_le hG242 (j := (x13.toInt).toNat) (k := (x4.toInt).toNat) (by omega)
        have s_253 : PW M241 (v244.toInt).toNat (x4.toInt).toNat = PW M241 ((x13.toInt).toNat + 1) (x4.toInt).toNat := by rw [show (v244.toInt).toNat = (x13.toInt).toNat + 1 by omega]
        exact ih.2.2.2 M241 (u1) x3 x4 x5 x6 x7 (u8) (u9) (u10) (u11) (u12) v244 hG242 F243 (by omega) (by omega) (by omega) (by omega) (by omega) (by omega) (by omega) (by omega) (by omega) (by omega) (fun i z => by
            by_cases ei : i = (x13.toInt).toNat
            · rw [ei]; omega
            · have z2 := g11 i (by omega)
              rw [(W_n W240 (by omega) rfl)]; omega) (by omega)
set_option maxRecDepth 4000 in
set_option maxHeartbeats 0 in
theorem T_237_1 {X : mm_X} {d : Nat} {M : mm_M} {Q : Option Value → mm_M → Prop} {n : Int32} {w : Int32} (hX : g_X X) (hd : 3 ≤ d) (q1 : NJ M) (q2 : FA M) (q3 : WC M) (h : ∀ (r : Int32) (M1 : mm_M), g_G M1 → FR md_bs M M1 → Q (some (.int r)) M1) : ∀ nn9 : Nat, (∀ (N : mm_M) (u1 : Value) (x3 : Int32) (x4 : Int32) (x5 : Int32) (x6 : Int32) (x7 : Int32) (x8 : Int32) (u9 : Value) (u10 : Value) (u11 : Value) (u12 : Value) (u13 : Value), g_G N → FR md_bs M N → (0 ≤ x8.toInt) → (x8.toInt ≤ 4) → (1 ≤ x4.toInt) → (x4.toInt ≤ 4) → (0 ≤ x3.toInt) → (x3.toInt ≤ 7) → (0 ≤ w.toInt) → (w.toInt ≤ 11) → (x4.toInt ≤ (N.2.1 83 (x3.toInt).toNat).toInt - (N.2.1 82 (x3.toInt).toNat).toInt + 1) → (∀ i : Nat, i < (x8.toInt).toNat → (N.2.1 118 i).toInt = i) → 4 - x8.toInt < (nn9 : Int) → mm_T X d 236 55 [.ref 77, u1, .int w, .int x3, .int x4, .int x5, .int x6, .int x7, .int x8, u9, u10, u11, u12, u13] [] N Q) := by
  intro nn9
  induction nn9 with
  | zero =>
    intro N u1 x3 x4 x5 x6 x7 x8 u9 u10 u11 u12 u13 hG F0 g1 g2 g3 g4 g5 g6 g7 g8 g9 g10 hm
    exfalso; omega
  | succ nn9 ih =>
    intro N u1 x3 x4 x5 x6 x7 x8 u9 u10 u11 u12 u13 hG F0 g1 g2 g3 g4 g5 g6 g7 g8 g9 g10 hm
    have s_254 := g_b hG (a := 83) (i := (x3.toInt).toNat) (lo := 0) (hi := 63) rfl rfl
    have s_255 := g_b hG (a := 82) (i := (x3.toInt).toNat) (lo := 0) (hi := 59) rfl rfl
    refine to_i (pc := 55) rw_237_55 rfl ?_
    refine to_i (pc := 57) rw_237_57 rfl ?_
    refine b_cge (pc := 59) rw_237_59 (A := x8.toInt) (B := x4.toInt) rfl rfl (fun h256 => ?_) (fun h256 => ?_)
    · exact (T_237_0 (n := n) (w := w) hX hd q1 q2 q3 h (((16777216 - PV N (x4.toInt).toNat) * 1000 + 500).toNat + 1)).1 N (u1) x3 x4 x5 x6 x7 (.int x8) (u9) (u10) (u11) (u12) (u13) hG F0 (by omega) (by omega) (by omega) (by omega) (by omega) (by omega) (by omega) (fun i z => by have z2 := g10 i (by omega); omega) (by omega)
    · refine to_an (pc := 62) rw_237_62 rfl ?_
      refine s_gR (pc := 63) rw_237_63 hG rfl (v := 118) rfl ?_
      refine to_i (pc := 66) rw_237_66 rfl ?_
      refine to_i (pc := 68) rw_237_68 rfl ?_
      refine s_ias (pc := 70) rw_237_70 hG rfl (n := 4) rfl (A := x8.toInt) rfl (by omega) (by omega) (fun M258 W257 => ?_)
      have hG259 := g_w hG W257 (A := x8.toInt) rfl (lo := 0) (hi := 63) rfl rfl (by omega) (by decide)
      have F260 := FR.w F0 W257 (show 118 = 77 ∧ (x8.toInt).toNat = 2 ∨ 94 ≤ 118 ∧ 118 ≤ 98 ∨ 118 = 118 by omega)
      refine s_inc (pc := 71) rw_237_71 (ls2 := fun v => [.ref 77, u1, .int w, .int x3, .int x4, .int x5, .int x6, .int x7, .int v, u9, u10, u11, u12, u13]) rfl rfl (fun _ => rfl) (A := x8.toInt) (B := 1) rfl rfl (by omega) (fun v261 e262 => ?_)
      refine to_go (pc := 74) rw_237_74 ?_
      have t_263 : (M258.2.1 83 (x3.toInt).toNat).toInt = (N.2.1 83 (x3.toInt).toNat).toInt := congrArg Int32.toInt (W_n W257 (by omega) rfl)
      have t_264 : (M258.2.1 82 (x3.toInt).toNat).toInt = (N.2.1 82 (x3.toInt).toNat).toInt := congrArg Int32.toInt (W_n W257 (by omega) rfl)
      exact ih M258 (u1) x3 x4 x5 x6 x7 v261 (u9) (u10) (u11) (u12) (u13) hG259 F260 (by omega) (by omega) (by omega) (by omega) (by omega) (by omega) (by omega) (by omega) (by omega) (fun i z => by
          by_cases e : i = (x8.toInt).toNat
          · rw [e, (W_e W257)]; omega
          · rw [(W_n W257 (by omega) rfl)]; exact g10 i (by omega)) (by omega)
set_option maxRecDepth 4000 in
set_option maxHeartbeats 0 in
theorem C_237 {X : mm_X} {d : Nat} {M : mm_M} {Q : Option Value → mm_M → Prop} {n : Int32} {w : Int32} (hX : g_X X) (hd : 3 ≤ d) (hG : g_G M) (q1 : NJ M) (q2 : FA M) (q3 : WC M) (h : ∀ (r : Int32) (M1 : mm_M), g_G M1 → FR md_bs M M1 → Q (some (.int r)) M1) : mm_T X d 236 0 [.ref 77, .int n, .int w, .null, .null, .null, .null, .null, .null, .null, .null, .null, .null, .null] [] M Q := by
  have F0 : FR md_bs M M := FR.rf
  refine to_an (pc := 0) rw_237_0 rfl ?_
  refine to_c (pc := 1) rw_237_1 (x := (0 : Int32)) rfl rfl ?_
  refine s_pI (pc := 2) rw_237_2 hG rfl (fun M266 W265 => ?_)
  have hG267 := g_wf hG W265 rfl rfl (by decide)
  have F268 := FR.w F0 W265 (show 77 = 77 ∧ 2 = 2 ∨ 94 ≤ 77 ∧ 77 ≤ 98 ∨ 77 = 118 by decide)
  refine to_an (pc := 5) rw_237_5 rfl ?_
  refine to_in (pc := 6) rw_237_6 rfl ?_
  refine s_v (pc := 7) rw_237_7 (by omega) (ls0 := [.ref 77, .int n]) rfl (Nat.le_of_ble_eq_true rfl) (Nat.le_of_ble_eq_true rfl) rfl (to_rc rfl rfl rfl (g_o hG267 rfl)) rfl ?_
  refine to_in (pc := 0) rw_186_0 rfl ?_
  refine b_ilt (pc := 1) rw_186_1 (A := n.toInt) rfl (fun h269 => ?_) (fun h269 => ?_)
  · refine to_c (pc := 16) rw_186_16 (x := (0 : Int32)) rfl rfl ?_
    refine s_r1 (pc := 17) rw_186_17 (A := 0) rfl (by omega) ?_
    refine b_ieq_t (pc := 10) rw_237_10 (A := 0) rfl (by omega) ?_
    refine to_c (pc := 21) rw_237_21 (x := (-1 : Int32)) rfl rfl ?_
    refine to_r0 (pc := 22) rw_237_22 ?_
    have k_270 : (-1 : Int32).toInt = -1 := rfl
    exact h (-1 : Int32) M266 hG267 F268 
  · refine to_in (pc := 4) rw_186_4 rfl ?_
    refine to_an (pc := 5) rw_186_5 rfl ?_
    have c_271 : M266.2.1 77 29 = (M.2.1 77 29) := (W_n W265 (by decide) rfl)
    have b_272 := g_b hG (a := 77) (i := 29) (lo := 0) (hi := 150) rfl rfl
    refine tt_gI (pc := 6) rw_186_6 (g_o hG267 rfl) (v := (M.2.1 77 29)) c_271 ?_
    refine b_cgt (pc := 9) rw_186_9 (A := n.toInt) (B := (M.2.1 77 29).toInt) rfl rfl (fun h273 => ?_) (fun h273 => ?_)
    · refine to_c (pc := 16) rw_186_16 (x := (0 : Int32)) rfl rfl ?_
      refine s_r1 (pc := 17) rw_186_17 (A := 0) rfl (by omega) ?_
      refine b_ieq_t (pc := 10) rw_237_10 (A := 0) rfl (by omega) ?_
      refine to_c (pc := 21) rw_237_21 (x := (-1 : Int32)) rfl rfl ?_
      refine to_r0 (pc := 22) rw_237_22 ?_
      have k_274 : (-1 : Int32).toInt = -1 := rfl
      exact h (-1 : Int32) M266 hG267 F268 
    · refine to_c (pc := 12) rw_186_12 (x := (1 : Int32)) rfl rfl ?_
      refine to_go (pc := 13) rw_186_13 ?_
      refine s_r1 (pc := 17) rw_186_17 (A := 1) rfl (by omega) ?_
      refine b_ieq_f (pc := 10) rw_237_10 (A := 1) rfl (by omega) ?_
      refine to_an (pc := 13) rw_237_13 rfl ?_
      refine to_in (pc := 14) rw_237_14 rfl ?_
      refine s_v (pc := 15) rw_237_15 (by omega) (ls0 := [.ref 77, .int w]) rfl (Nat.le_of_ble_eq_true rfl) (Nat.le_of_ble_eq_true rfl) rfl (to_rc rfl rfl rfl (g_o hG267 rfl)) rfl ?_
      refine to_in (pc := 0) rw_180_0 rfl ?_
      refine b_ilt (pc := 1) rw_180_1 (A := w.toInt) rfl (fun h275 => ?_) (fun h275 => ?_)
      · refine to_c (pc := 16) rw_180_16 (x := (0 : Int32)) rfl rfl ?_
        refine s_r1 (pc := 17) rw_180_17 (A := 0) rfl (by omega) ?_
        refine b_ine_f (pc := 18) rw_237_18 (A := 0) rfl (by omega) ?_
        refine to_c (pc := 21) rw_237_21 (x := (-1 : Int32)) rfl rfl ?_
        refine to_r0 (pc := 22) rw_237_22 ?_
        have k_276 : (-1 : Int32).toInt = -1 := rfl
        exact h (-1 : Int32) M266 hG267 F268 
      · refine to_in (pc := 4) rw_180_4 rfl ?_
        refine to_an (pc := 5) rw_180_5 rfl ?_
        have c_277 : M266.2.1 77 13 = (M.2.1 77 13) := (W_n W265 (by decide) rfl)
        have b_278 := g_b hG (a := 77) (i := 13) (lo := 0) (hi := 12) rfl rfl
        refine tt_gI (pc := 6) rw_180_6 (g_o hG267 rfl) (v := (M.2.1 77 13)) c_277 ?_
        refine b_cge (pc := 9) rw_180_9 (A := w.toInt) (B := (M.2.1 77 13).toInt) rfl rfl (fun h279 => ?_) (fun h279 => ?_)
        · refine to_c (pc := 16) rw_180_16 (x := (0 : Int32)) rfl rfl ?_
          refine s_r1 (pc := 17) rw_180_17 (A := 0) rfl (by omega) ?_
          refine b_ine_f (pc := 18) rw_237_18 (A := 0) rfl (by omega) ?_
          refine to_c (pc := 21) rw_237_21 (x := (-1 : Int32)) rfl rfl ?_
          refine to_r0 (pc := 22) rw_237_22 ?_
          have k_280 : (-1 : Int32).toInt = -1 := rfl
          exact h (-1 : Int32) M266 hG267 F268 
        · refine to_c (pc := 12) rw_180_12 (x := (1 : Int32)) rfl rfl ?_
          refine to_go (pc := 13) rw_180_13 ?_
          refine s_r1 (pc := 17) rw_180_17 (A := 1) rfl (by omega) ?_
          refine b_ine_t (pc := 18) rw_237_18 (A := 1) rfl (by omega) ?_
          refine to_an (pc := 23) rw_237_23 rfl ?_
          refine to_in (pc := 24) rw_237_24 rfl ?_
          refine s_v (pc := 25) rw_237_25 (by omega) (ls0 := [.ref 77, .int n, .null, .null]) rfl (Nat.le_of_ble_eq_true rfl) (Nat.le_of_ble_eq_true rfl) rfl (to_rc rfl rfl rfl (g_o hG267 rfl)) rfl ?_
          have t_281 : (M266.2.1 77 29).toInt = (M.2.1 77 29).toInt := congrArg Int32.toInt c_271
          have j_282 := (NJ_f (fun a i z => W_n W265 (by omega) rfl) q1)
          refine C_189 hX (by omega) hG267 (by omega) (by omega) (by omega) j_282 (n := n) (fun M285 hG284 F283 => ?_)
          have F286 := FR.c F268 F283 tg_272
          refine to_an (pc := 28) rw_237_28 rfl ?_
          refine s_gR (pc := 29) rw_237_29 hG284 rfl (v := 86) rfl ?_
          refine to_in (pc := 32) rw_237_32 rfl ?_
          refine s_ial (pc := 33) rw_237_33 hG284 rfl (n := 24) rfl rfl (A := w.toInt) rfl (by omega) (by omega) (lo := 0) (hi := 7) rfl rfl (fun v287 w_288 _ _ => ?_)
          have c_289 : M285.2.1 77 13 = (M.2.1 77 13) := (F_n F283 (show ¬ (94 ≤ 77 ∧ 77 ≤ 98) by decide) c_277)
          have t_290 : (M285.2.1 77 13).toInt = (M.2.1 77 13).toInt := congrArg Int32.toInt c_289
          have j_292 := (WC_f (tg_270 F283) (WC_f (fun a i z => W_n W265 (by omega) rfl) q3))
          have s_291 := WC_u (A := w.toInt) j_292 (by omega) (by omega) (by omega) w_288
          refine to_isn (pc := 34) rw_237_34 (ls2 := [.ref 77, .int n, .int w, .int v287, .null, .null, .null, .null, .null, .null, .null, .null, .null, .null]) rfl rfl ?_
          refine to_an (pc := 35) rw_237_35 rfl ?_
          refine s_gR (pc := 36) rw_237_36 hG284 rfl (v := 84) rfl ?_
          refine to_in (pc := 39) rw_237_39 rfl ?_
          refine s_ial (pc := 40) rw_237_40 hG284 rfl (n := 16) rfl rfl (A := v287.toInt) rfl (by omega) (by omega) (lo := 0) (hi := 24) rfl rfl (fun v293 w_294 _ _ => ?_)
          have t_295 := congrArg Int32.toInt w_294
          have j_297 := (FA_f (tg_261 F283) (FA_f (fun a i z => W_n W265 (by omega) rfl) q2))
          have j_296 := FA_u j_297 (v287.toInt).toNat
          refine to_is (pc := 41) rw_237_41 (ls2 := [.ref 77, .int n, .int w, .int v287, .int v293, .null, .null, .null, .null, .null, .null, .null, .null, .null]) rfl rfl ?_
          refine to_c (pc := 43) rw_237_43 (x := (-1 : Int32)) rfl rfl ?_
          refine to_is (pc := 44) rw_237_44 (ls2 := [.ref 77, .int n, .int w, .int v287, .int v293, .int (-1 : Int32), .null, .null, .null, .null, .null, .null, .null, .null]) rfl rfl ?_
          refine to_c (pc := 46) rw_237_46 (x := (0 : Int32)) rfl rfl ?_
          refine to_is (pc := 47) rw_237_47 (ls2 := [.ref 77, .int n, .int w, .int v287, .int v293, .int (-1 : Int32), .int (0 : Int32), .null, .null, .null, .null, .null, .null, .null]) rfl rfl ?_
          refine to_c (pc := 49) rw_237_49 (x := (0 : Int32)) rfl rfl ?_
          refine to_is (pc := 50) rw_237_50 (ls2 := [.ref 77, .int n, .int w, .int v287, .int v293, .int (-1 : Int32), .int (0 : Int32), .int (0 : Int32), .null, .null, .null, .null, .null, .null]) rfl rfl ?_
          refine to_c (pc := 52) rw_237_52 (x := (0 : Int32)) rfl rfl ?_
          refine to_is (pc := 53) rw_237_53 (ls2 := [.ref 77, .int n, .int w, .int v287, .int v293, .int (-1 : Int32), .int (0 : Int32), .int (0 : Int32), .int (0 : Int32), .null, .null, .null, .null, .null]) rfl rfl ?_
          have k_298 : (-1 : Int32).toInt = -1 := rfl
          have k_299 : (0 : Int32).toInt = 0 := rfl
          have t_300 : (M285.2.1 83 (v287.toInt).toNat).toInt = (M.2.1 83 (v287.toInt).toNat).toInt := congrArg Int32.toInt (F_n F283 (show ¬ (94 ≤ 83 ∧ 83 ≤ 98) by decide) (W_n W265 (by omega) rfl))
          have t_301 : (M285.2.1 82 (v287.toInt).toNat).toInt = (M.2.1 82 (v287.toInt).toNat).toInt := congrArg Int32.toInt (F_n F283 (show ¬ (94 ≤ 82 ∧ 82 ≤ 98) by decide) (W_n W265 (by omega) rfl))
          exact (T_237_1 (n := n) (w := w) hX hd q1 q2 q3 h ((4 - (0 : Int32).toInt).toNat + 1)) M285 (.int n) v287 v293 (-1 : Int32) (0 : Int32) (0 : Int32) (0 : Int32) (.null) (.null) (.null) (.null) (.null) hG284 F286 (by omega) (by omega) (by omega) (by omega) (by omega) (by omega) (by omega) (by omega) (by omega) (fun i z => absurd z (by omega)) (by omega)
