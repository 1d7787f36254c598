theorem tg_145 : ∀ a i : Nat, (a < 0) → (a = 119) := fun a i z => by omega
theorem tg_146 : ∀ a i j : Nat, (a = 77 ∧ 11 ≤ i ∧ i ≤ 13 ∨ 80 ≤ a ∧ a ≤ 84 ∧ i < 8 ∨ 85 ≤ a ∧ a ≤ 86 ∧ i < 12) → ¬ (a = 119 ∧ i = j) := fun a i j z => by omega
set_option maxRecDepth 4000 in
set_option maxHeartbeats 0 in
theorem U_239_0 {X : mm_X} {d : Nat} {M : mm_M} {Q : Option Value → mm_M → Prop} {c : Int32} {f : Int32} {t : Int32} {w : Int32} {sg : x_S} {ca : Int} {K : x_Kn} (hX : g_X X) (hd : 2 ≤ d) (q1 : 0 ≤ c.toInt) (q2 : c.toInt < ca) (q3 : ca ≤ 30) (q4 : 0 ≤ f.toInt) (q5 : f.toInt < sg.2.1) (q6 : 0 ≤ w.toInt) (q7 : w.toInt ≤ 2) (q8 : PLk M sg) (q9 : KST M 96 98 97 95 ca sg K) (h : ∀ (r : Int32) (M1 : mm_M), g_G M1 → FR md_mw M M1 → (r.toInt = x_mres (x_mt (x_hf sg K c.toInt f.toInt) t.toInt K.2.2.2 (x_mwf sg f.toInt (x_hf sg K c.toInt f.toInt) K.2.2.2) 0 0) 4095 w.toInt) → Q (some (.int r)) M1) : ∀ nn9 : Nat, (∀ (N : mm_M) (u1 : Value) (u2 : Value) (y5 : Int64) (x7 : Int32) (x8 : Int32) (x9 : Int32) (x10 : Int32) (x11 : Int32) (u12 : Value) (u13 : Value) (u14 : Value) (u15 : Value), g_G N → FR md_mw M N → (0 ≤ x11.toInt) → (x11.toInt ≤ 4096) → (0 ≤ x7.toInt) → (x7.toInt ≤ 12) → (0 ≤ x10.toInt) → (x10.toInt ≤ 4096) → (KST N 96 98 97 95 ca sg K) → (y5 = (x_hf sg K c.toInt f.toInt)) → (0 ≤ y5.toInt ∧ y5.toInt < 4611686018427387904) → (MLr N (x_mwf sg f.toInt (x_hf sg K c.toInt f.toInt) K.2.2.2) ∧ (((x_mwf sg f.toInt (x_hf sg K c.toInt f.toInt) K.2.2.2)).length : Int) = x7.toInt) → (x11.toInt ≤ ((2 ^ ((x_mwf sg f.toInt (x_hf sg K c.toInt f.toInt) K.2.2.2)).length : Nat) : Int)) → (x_sr (x_hf sg K c.toInt f.toInt) t.toInt K.2.2.2 (x_mwf sg f.toInt (x_hf sg K c.toInt f.toInt) K.2.2.2) x10.toInt x11.toInt x8 x9) → (4096 - x11.toInt) * 100 + 50 < (nn9 : Int) → mm_T X d 238 88 [.ref 77, u1, u2, .int t, .int w, .long y5, .null, .int x7, .int x8, .int x9, .int x10, .int x11, u12, u13, u14, u15] [] N Q) ∧ (∀ (N : mm_M) (u1 : Value) (u2 : Value) (y5 : Int64) (x7 : Int32) (x8 : Int32) (x9 : Int32) (x10 : Int32) (x11 : Int32) (y12 : Int64) (x14 : Int32) (x15 : Int32), g_G N → FR md_mw M N → (0 ≤ x11.toInt) → (x11.toInt ≤ 4095) → (0 ≤ x7.toInt) → (x7.toInt ≤ 12) → (0 ≤ x10.toInt) → (x10.toInt ≤ 4096) → (0 ≤ x15.toInt) → (x15.toInt ≤ 12) → (x15.toInt ≤ x7.toInt) → (KST N 96 98 97 95 ca sg K) → (y5 = (x_hf sg K c.toInt f.toInt)) → (0 ≤ y5.toInt ∧ y5.toInt < 4611686018427387904) → (MLr N (x_mwf sg f.toInt (x_hf sg K c.toInt f.toInt) K.2.2.2) ∧ (((x_mwf sg f.toInt (x_hf sg K c.toInt f.toInt) K.2.2.2)).length : Int) = x7.toInt) → (x11.toInt < ((2 ^ ((x_mwf sg f.toInt (x_hf sg K c.toInt f.toInt) K.2.2.2)).length : Nat) : Int)) → (x_sr (x_hf sg K c.toInt f.toInt) t.toInt K.2.2.2 (x_mwf sg f.toInt (x_hf sg K c.toInt f.toInt) K.2.2.2) x10.toInt x11.toInt x8 x9) → (x_cr K.2.2.2 (x_mwf sg f.toInt (x_hf sg K c.toInt f.toInt) K.2.2.2) x11.toInt x15.toInt y12 x14) → (4096 - x11.toInt) * 100 + 12 - x15.toInt < (nn9 : Int) → mm_T X d 238 106 [.ref 77, u1, u2, .int t, .int w, .long y5, .null, .int x7, .int x8, .int x9, .int x10, .int x11, .long y12, .null, .int x14, .int x15] [] N Q) := by
  intro nn9
  induction nn9 with
  | zero =>
    refine ⟨?_, ?_⟩
    · intro N u1 u2 y5 x7 x8 x9 x10 x11 u12 u13 u14 u15 hG F0 g1 g2 g3 g4 g5 g6 g7 g8 g9 g10 g11 g12 hm
      exfalso; omega
    · intro N u1 u2 y5 x7 x8 x9 x10 x11 y12 x14 x15 hG F0 g1 g2 g3 g4 g5 g6 g7 g8 g9 g10 g11 g12 g13 g14 g15 g16 hm
      exfalso; omega
  | succ nn9 ih =>
    refine ⟨?_, ?_⟩
    · intro N u1 u2 y5 x7 x8 x9 x10 x11 u12 u13 u14 u15 hG F0 g1 g2 g3 g4 g5 g6 g7 g8 g9 g10 g11 g12 hm
      have z_1 := g10.2
      have z_2 := x_sr_le g12
      refine to_i (pc := 88) rw_239_88 rfl (to_c (pc := 90) rw_239_90 (x := (1 : Int32)) rfl rfl (to_i (pc := 91) rw_239_91 rfl (s_opE (pc := 93) rw_239_93 (w := (1 : Int32) <<< x7) rfl (fun v3 e4 => ?_))))
      have z_5 := i_l12s (by omega) (by omega) e4
      have z_6 : v3.toInt = ((2 ^ ((x_mwf sg f.toInt (x_hf sg K c.toInt f.toInt) K.2.2.2)).length : Nat) : Int) := by rw [show ((x_mwf sg f.toInt (x_hf sg K c.toInt f.toInt) K.2.2.2)).length = (x7.toInt).toNat by omega]; exact z_5.1
      refine b_cge (pc := 94) rw_239_94 (A := x11.toInt) (B := v3.toInt) rfl rfl (fun h7 => ?_) (fun h7 => ?_)
      · refine to_i (pc := 205) rw_239_205 rfl (b_ine (pc := 207) rw_239_207 (A := w.toInt) rfl (fun h8 => ?_) (fun h8 => ?_))
        · refine to_i (pc := 224) rw_239_224 rfl (to_c (pc := 226) rw_239_226 (x := (1 : Int32)) rfl rfl (b_cne (pc := 227) rw_239_227 (A := w.toInt) (B := 1) rfl rfl (fun h9 => ?_) (fun h9 => ?_)))
          · refine to_i (pc := 235) rw_239_235 rfl (to_r0 (pc := 237) rw_239_237 ?_)
            have z_10 := x_mres_e (k := w.toInt) (r := x10.toInt) (x_sr_e g12 (by omega)) (by omega)
            exact h x10 N hG F0 (by omega)
          · refine to_i (pc := 230) rw_239_230 rfl (to_go (pc := 232) rw_239_232 (to_r0 (pc := 237) rw_239_237 ?_))
            have z_11 := x_mres_e (k := w.toInt) (r := x9.toInt) (x_sr_e g12 (by omega)) (by omega)
            exact h x9 N hG F0 (by omega)
        · refine to_i (pc := 210) rw_239_210 rfl (b_ine (pc := 212) rw_239_212 (A := x10.toInt) rfl (fun h12 => ?_) (fun h12 => ?_))
          · refine to_i (pc := 219) rw_239_219 rfl (to_go (pc := 221) rw_239_221 (to_r0 (pc := 237) rw_239_237 ?_))
            have z_13 := x_mres_e (k := w.toInt) (r := x8.toInt) (x_sr_e g12 (by omega)) (by omega)
            exact h x8 N hG F0 (by omega)
          · refine to_c (pc := 215) rw_239_215 (x := (0 : Int32)) rfl rfl (to_go (pc := 216) rw_239_216 (to_r0 (pc := 237) rw_239_237 ?_))
            have k_14 : (0 : Int32).toInt = 0 := rfl
            have z_15 := x_mres_e (k := w.toInt) (r := 0) (x_sr_e g12 (by omega)) (by omega)
            exact h (0 : Int32) N hG F0 (by omega)
      · refine to_cl (pc := 97) rw_239_97 rfl (x := (0 : Int64)) rfl (to_ls (pc := 98) rw_239_98 (ls2 := [.ref 77, u1, u2, .int t, .int w, .long y5, .null, .int x7, .int x8, .int x9, .int x10, .int x11, .long (0 : Int64), .null, u14, u15]) rfl rfl (to_c (pc := 100) rw_239_100 (x := (0 : Int32)) rfl rfl (to_is (pc := 101) rw_239_101 (ls2 := [.ref 77, u1, u2, .int t, .int w, .long y5, .null, .int x7, .int x8, .int x9, .int x10, .int x11, .long (0 : Int64), .null, .int (0 : Int32), u15]) rfl rfl (to_c (pc := 103) rw_239_103 (x := (0 : Int32)) rfl rfl (to_is (pc := 104) rw_239_104 (ls2 := [.ref 77, u1, u2, .int t, .int w, .long y5, .null, .int x7, .int x8, .int x9, .int x10, .int x11, .long (0 : Int64), .null, .int (0 : Int32), .int (0 : Int32)]) rfl rfl ?_)))))
        have k_16 : (0 : Int32).toInt = 0 := rfl
        exact ih.2 N (u1) (u2) y5 x7 x8 x9 x10 x11 (0 : Int64) (0 : Int32) (0 : Int32) hG F0 (by omega) (by omega) (by omega) (by omega) (by omega) (by omega) (by omega) (by omega) (by omega) g7 g8 g9 g10 (by omega) g12 (x_cr_0 (by omega)) (by omega)
    · intro N u1 u2 y5 x7 x8 x9 x10 x11 y12 x14 x15 hG F0 g1 g2 g3 g4 g5 g6 g7 g8 g9 g10 g11 g12 g13 g14 g15 g16 hm
      have z_17 := g13.2
      have z_18 := x_sr_le g15
      refine to_i (pc := 106) rw_239_106 rfl (to_i (pc := 108) rw_239_108 rfl (b_cge (pc := 110) rw_239_110 (A := x15.toInt) (B := x7.toInt) rfl rfl (fun h19 => ?_) (fun h19 => ?_)))
      · refine to_l (pc := 163) rw_239_163 rfl rfl rfl (to_l (pc := 165) rw_239_165 rfl rfl rfl (to_cl (pc := 167) rw_239_167 rfl (x := (-1 : Int64)) rfl (to_2l (pc := 170) rw_239_170 (v := (y12 ^^^ (-1 : Int64))) rfl (to_2l (pc := 171) rw_239_171 (v := (y5 &&& (y12 ^^^ (-1 : Int64)))) rfl (s_s (pc := 172) rw_239_172 (dp0 hd (by decide)) (ls0 := [.long (y5 &&& (y12 ^^^ (-1 : Int64))), .null, .null, .null]) rfl (Nat.le_of_ble_eq_true rfl) (Nat.le_of_ble_eq_true rfl) rfl (to_rcs rfl rfl) rfl ?_)))))
        have z_20 := l_and_l (y := (y12 ^^^ (-1 : Int64))) g12
        refine E_151l hX (dp1 hd (by decide)) hG (by omega) (x := (y5 &&& (y12 ^^^ (-1 : Int64)))) (fun r21 M25 hG23 F22 p_24 => ?_)
        have F26 := FR.c F0 F22 tg_145
        refine to_in (pc := 175) rw_239_175 rfl (b_cle (pc := 176) rw_239_176 (A := r21.toInt) (B := t.toInt) rfl rfl (fun h27 => ?_) (fun h27 => ?_))
        · refine to_i (pc := 182) rw_239_182 rfl (to_i (pc := 184) rw_239_184 rfl (s_opE (pc := 186) rw_239_186 (w := x8 &&& x14) rfl (fun v28 e29 => to_is (pc := 187) rw_239_187 (ls2 := [.ref 77, u1, u2, .int t, .int w, .long y5, .null, .int x7, .int v28, .int x9, .int x10, .int x11, .long y12, .null, .int x14, .int x15]) rfl rfl (to_i (pc := 189) rw_239_189 rfl (to_i (pc := 191) rw_239_191 rfl (s_opE (pc := 193) rw_239_193 (w := x9 ||| x14) rfl (fun v30 e31 => to_is (pc := 194) rw_239_194 (ls2 := [.ref 77, u1, u2, .int t, .int w, .long y5, .null, .int x7, .int v28, .int v30, .int x10, .int x11, .long y12, .null, .int x14, .int x15]) rfl rfl (s_inc (pc := 196) rw_239_196 (ls2 := fun v => [.ref 77, u1, u2, .int t, .int w, .long y5, .null, .int x7, .int v28, .int v30, .int v, .int x11, .long y12, .null, .int x14, .int x15]) rfl rfl (fun _ => rfl) (A := x10.toInt) (B := 1) rfl rfl (by omega) (fun v32 e33 => s_inc (pc := 199) rw_239_199 (ls2 := fun v => [.ref 77, u1, u2, .int t, .int w, .long y5, .null, .int x7, .int v28, .int v30, .int v32, .int v, .long y12, .null, .int x14, .int x15]) rfl rfl (fun _ => rfl) (A := x11.toInt) (B := 1) rfl rfl (by omega) (fun v34 e35 => to_go (pc := 202) rw_239_202 ?_))))))))))
          have kn_36 : KST M25 96 98 97 95 ca sg K := KST_f (fun i => (F_nl F22 (show ¬ (96 < 0) by decide) rfl)) (fun i => (F_n F22 (show ¬ (98 < 0) by decide) rfl)) (fun i => (F_n F22 (show ¬ (97 < 0) by decide) rfl)) (fun i => (F_nl F22 (show ¬ (95 < 0) by decide) rfl)) g10
          exact ih.1 M25 (u1) (u2) y5 x7 v28 v30 v32 v34 (.long y12) (.null) (.int x14) (.int x15) hG23 F26 (by omega) (by omega) (by omega) (by omega) (by omega) (by omega) kn_36 g11 g12 ⟨MLr_f (fun i => (F_n F22 (show ¬ (119 < 0) by decide) rfl)) g13.1, g13.2⟩ (by have := Nat.two_pow_pos ((x_mwf sg f.toInt (x_hf sg K c.toInt f.toInt) K.2.2.2)).length; omega) (x_sr_y g15 g16 (by omega) (by omega) (by omega) (by rw [← g11, ← p_24]; omega) (by omega) e29 e31) (by omega)
        · refine to_go (pc := 179) rw_239_179 (s_inc (pc := 199) rw_239_199 (ls2 := fun v => [.ref 77, u1, u2, .int t, .int w, .long y5, .null, .int x7, .int x8, .int x9, .int x10, .int v, .long y12, .null, .int x14, .int x15]) rfl rfl (fun _ => rfl) (A := x11.toInt) (B := 1) rfl rfl (by omega) (fun v37 e38 => to_go (pc := 202) rw_239_202 ?_))
          have kn_39 : KST M25 96 98 97 95 ca sg K := KST_f (fun i => (F_nl F22 (show ¬ (96 < 0) by decide) rfl)) (fun i => (F_n F22 (show ¬ (98 < 0) by decide) rfl)) (fun i => (F_n F22 (show ¬ (97 < 0) by decide) rfl)) (fun i => (F_nl F22 (show ¬ (95 < 0) by decide) rfl)) g10
          exact ih.1 M25 (u1) (u2) y5 x7 x8 x9 x10 v37 (.long y12) (.null) (.int x14) (.int x15) hG23 F26 (by omega) (by omega) (by omega) (by omega) (by omega) (by omega) kn_39 g11 g12 ⟨MLr_f (fun i => (F_n F22 (show ¬ (119 < 0) by decide) rfl)) g13.1, g13.2⟩ (by have := Nat.two_pow_pos ((x_mwf sg f.toInt (x_hf sg K c.toInt f.toInt) K.2.2.2)).length; omega) (x_sr_n g15 g16 (by omega) (by omega) (by omega) (by rw [← g11, ← p_24]; omega)) (by omega)
      · refine to_i (pc := 113) rw_239_113 rfl (to_i (pc := 115) rw_239_115 rfl (s_opE (pc := 117) rw_239_117 (w := x11 >>> x15) rfl (fun v40 e41 => to_c (pc := 118) rw_239_118 (x := (1 : Int32)) rfl rfl (s_and (pc := 119) rw_239_119 (B := 1) rfl (by omega) (fun v42 e43 _ _ => ?_)))))
        have z_44 := i_bitn (by omega) (by omega) (by omega) e41 e43
        refine b_ine (pc := 120) rw_239_120 (A := v42.toInt) rfl (fun h45 => ?_) (fun h45 => ?_)
        · refine to_l (pc := 126) rw_239_126 rfl rfl rfl (to_an (pc := 128) rw_239_128 rfl (s_gR (pc := 129) rw_239_129 hG rfl (v := 95) rfl (to_an (pc := 132) rw_239_132 rfl (s_gR (pc := 133) rw_239_133 hG rfl (v := 119) rfl (to_i (pc := 136) rw_239_136 rfl (s_ial (pc := 138) rw_239_138 hG rfl (n := 12) rfl rfl (A := x15.toInt) rfl (by omega) (by omega) (lo := 0) (hi := 11) rfl rfl (fun v46 w_47 _ _ => ?_)))))))
          have z_48 := (congrArg Int32.toInt w_47).symm.trans (g13.1 (x15.toInt).toNat (by omega))
          refine s_lalE (pc := 139) rw_239_139 hG rfl (n := 12) rfl (A := v46.toInt) rfl (by omega) (by omega) (fun l49 w_50 => ?_)
          have z_51 := x_mw_e _ _ _ (x_gd_m (L := (x_mwf sg f.toInt (x_hf sg K c.toInt f.toInt) K.2.2.2)) (j := (x15.toInt).toNat) (by omega))
          have z_52 : l49 = K.2.2.2 (v46.toInt).toNat := KST_ld (K := K) g10 (by omega) (by omega) w_50
          refine to_2l (pc := 140) rw_239_140 (v := (y12 ||| l49)) rfl (to_ls (pc := 141) rw_239_141 (ls2 := [.ref 77, u1, u2, .int t, .int w, .long y5, .null, .int x7, .int x8, .int x9, .int x10, .int x11, .long (y12 ||| l49), .null, .int x14, .int x15]) rfl rfl (to_i (pc := 143) rw_239_143 rfl (to_c (pc := 145) rw_239_145 (x := (1 : Int32)) rfl rfl (to_an (pc := 146) rw_239_146 rfl (s_gR (pc := 147) rw_239_147 hG rfl (v := 119) rfl (to_i (pc := 150) rw_239_150 rfl (s_ialk (pc := 152) rw_239_152 hG rfl (n := 12) rfl rfl (A := x15.toInt) rfl (by omega) (by omega) (v := v46) w_47 (s_opE (pc := 153) rw_239_153 (w := (1 : Int32) <<< v46) rfl (fun v55 e56 => s_opE (pc := 154) rw_239_154 (w := x14 ||| v55) rfl (fun v57 e58 => to_is (pc := 155) rw_239_155 (ls2 := [.ref 77, u1, u2, .int t, .int w, .long y5, .null, .int x7, .int x8, .int x9, .int x10, .int x11, .long (y12 ||| l49), .null, .int v57, .int x15]) rfl rfl (s_inc (pc := 157) rw_239_157 (ls2 := fun v => [.ref 77, u1, u2, .int t, .int w, .long y5, .null, .int x7, .int x8, .int x9, .int x10, .int x11, .long (y12 ||| l49), .null, .int v57, .int v]) rfl rfl (fun _ => rfl) (A := x15.toInt) (B := 1) rfl rfl (by omega) (fun v59 e60 => ?_))))))))))))
          refine to_go (pc := 160) rw_239_160 ?_
          exact ih.2 N (u1) (u2) y5 x7 x8 x9 x10 x11 (y12 ||| l49) v57 v59 hG F0 (by omega) (by omega) (by omega) (by omega) (by omega) (by omega) (by omega) (by omega) (by omega) g10 g11 g12 g13 g14 g15 (x_cr_y g16 (by omega) (by omega) (by omega) (by omega) rfl (by rw [z_52, show (v46.toInt).toNat = ((x_mwf sg f.toInt (x_hf sg K c.toInt f.toInt) K.2.2.2)).getD (x15.toInt).toNat 0 by omega]) (by rw [← e58, ← e56, x_i32 z_48])) (by omega)
        · refine to_go (pc := 123) rw_239_123 (s_inc (pc := 157) rw_239_157 (ls2 := fun v => [.ref 77, u1, u2, .int t, .int w, .long y5, .null, .int x7, .int x8, .int x9, .int x10, .int x11, .long y12, .null, .int x14, .int v]) rfl rfl (fun _ => rfl) (A := x15.toInt) (B := 1) rfl rfl (by omega) (fun v61 e62 => to_go (pc := 160) rw_239_160 ?_))
          exact ih.2 N (u1) (u2) y5 x7 x8 x9 x10 x11 y12 x14 v61 hG F0 (by omega) (by omega) (by omega) (by omega) (by omega) (by omega) (by omega) (by omega) (by omega) g10 g11 g12 g13 g14 g15 (x_cr_n g16 (by omega) (by omega) (by omega) (by omega)) (by omega)
set_option maxRecDepth 4000 in
set_option maxHeartbeats 0 in
theorem U_239_1 {X : mm_X} {d : Nat} {M : mm_M} {Q : Option Value → mm_M → Prop} {c : Int32} {f : Int32} {t : Int32} {w : Int32} {sg : x_S} {ca : Int} {K : x_Kn} (hX : g_X X) (hd : 2 ≤ d) (q1 : 0 ≤ c.toInt) (q2 : c.toInt < ca) (q3 : ca ≤ 30) (q4 : 0 ≤ f.toInt) (q5 : f.toInt < sg.2.1) (q6 : 0 ≤ w.toInt) (q7 : w.toInt ≤ 2) (q8 : PLk M sg) (q9 : KST M 96 98 97 95 ca sg K) (h : ∀ (r : Int32) (M1 : mm_M), g_G M1 → FR md_mw M M1 → (r.toInt = x_mres (x_mt (x_hf sg K c.toInt f.toInt) t.toInt K.2.2.2 (x_mwf sg f.toInt (x_hf sg K c.toInt f.toInt) K.2.2.2) 0 0) 4095 w.toInt) → Q (some (.int r)) M1) : ∀ nn9 : Nat, (∀ (N : mm_M) (u1 : Value) (y5 : Int64) (x7 : Int32) (x8 : Int32) (u9 : Value) (u10 : Value) (u11 : Value) (u12 : Value) (u13 : Value) (u14 : Value) (u15 : Value), g_G N → FR md_mw M N → (0 ≤ x8.toInt) → (x8.toInt ≤ 12) → (x8.toInt ≤ sg.2.2.1) → (0 ≤ x7.toInt) → (x7.toInt ≤ 12) → (x7.toInt ≤ x8.toInt) → (PLk N sg) → (KST N 96 98 97 95 ca sg K) → (y5 = (x_hf sg K c.toInt f.toInt)) → (0 ≤ y5.toInt ∧ y5.toInt < 4611686018427387904) → (MWr N sg f.toInt (x_hf sg K c.toInt f.toInt) K.2.2.2 x8.toInt x7.toInt) → 12 - x8.toInt < (nn9 : Int) → mm_T X d 238 14 [.ref 77, u1, .int f, .int t, .int w, .long y5, .null, .int x7, .int x8, u9, u10, u11, u12, u13, u14, u15] [] N Q) := by
  intro nn9
  induction nn9 with
  | zero =>
    intro N u1 y5 x7 x8 u9 u10 u11 u12 u13 u14 u15 hG F0 g1 g2 g3 g4 g5 g6 g7 g8 g9 g10 g11 hm
    exfalso; omega
  | succ nn9 ih =>
    intro N u1 y5 x7 x8 u9 u10 u11 u12 u13 u14 u15 hG F0 g1 g2 g3 g4 g5 g6 g7 g8 g9 g10 g11 hm
    have z_63 := g7.2.1
    have z_64 := g7.2.2.1
    have z_65 := g7.2.2.2.1
    have z_66 := g7.1
    have z_67 := z_66.1
    have z_68 := z_66.2.1
    have z_69 := z_66.2.2.1
    have z_70 := z_66.2.2.2.1
    have z_71 := z_66.2.2.2.2.1
    have z_72 := z_66.2.2.2.2.2.1
    have b_73 := g_b hG (a := 77) (i := 11) (lo := 10) (hi := 60) rfl rfl
    have b_74 := g_b hG (a := 77) (i := 12) (lo := 0) (hi := 8) rfl rfl
    have b_75 := g_b hG (a := 77) (i := 13) (lo := 0) (hi := 12) rfl rfl
    have z_76 := g7.1.2.2.2.2.2.2.2 f.toInt (by omega) (by omega)
    refine to_i (pc := 14) rw_239_14 rfl (to_an (pc := 16) rw_239_16 rfl (tt_gI (pc := 17) rw_239_17 (g_o hG rfl) (v := (N.2.1 77 13)) rfl (b_cge (pc := 20) rw_239_20 (A := x8.toInt) (B := (N.2.1 77 13).toInt) rfl rfl (fun h77 => ?_) (fun h77 => ?_))))
    · refine to_c (pc := 74) rw_239_74 (x := (4095 : Int32)) rfl rfl (to_is (pc := 77) rw_239_77 (ls2 := [.ref 77, u1, .int f, .int t, .int w, .long y5, .null, .int x7, .int (4095 : Int32), u9, u10, u11, u12, u13, u14, u15]) rfl rfl (to_c (pc := 79) rw_239_79 (x := (0 : Int32)) rfl rfl (to_is (pc := 80) rw_239_80 (ls2 := [.ref 77, u1, .int f, .int t, .int w, .long y5, .null, .int x7, .int (4095 : Int32), .int (0 : Int32), u10, u11, u12, u13, u14, u15]) rfl rfl (to_c (pc := 82) rw_239_82 (x := (0 : Int32)) rfl rfl (to_is (pc := 83) rw_239_83 (ls2 := [.ref 77, u1, .int f, .int t, .int w, .long y5, .null, .int x7, .int (4095 : Int32), .int (0 : Int32), .int (0 : Int32), u11, u12, u13, u14, u15]) rfl rfl (to_c (pc := 85) rw_239_85 (x := (0 : Int32)) rfl rfl (to_is (pc := 86) rw_239_86 (ls2 := [.ref 77, u1, .int f, .int t, .int w, .long y5, .null, .int x7, .int (4095 : Int32), .int (0 : Int32), .int (0 : Int32), .int (0 : Int32), u12, u13, u14, u15]) rfl rfl ?_)))))))
      have k_78 : (4095 : Int32).toInt = 4095 := rfl
      have k_79 : (0 : Int32).toInt = 0 := rfl
      exact (U_239_0 (c := c) (f := f) (t := t) (w := w) (sg := sg) (ca := ca) (K := K) hX hd q1 q2 q3 q4 q5 q6 q7 q8 q9 h (((4096 - (0 : Int32).toInt) * 100 + 50).toNat + 1)).1 N (u1) (.int f) y5 x7 (4095 : Int32) (0 : Int32) (0 : Int32) (0 : Int32) (u12) (u13) (u14) (u15) hG F0 (by omega) (by omega) (by omega) (by omega) (by omega) (by omega) g8 g9 g10 (MWr_x g11 (by omega)) (by have := Nat.two_pow_pos ((x_mwf sg f.toInt (x_hf sg K c.toInt f.toInt) K.2.2.2)).length; omega) (x_sr_0 (by omega) (by omega) rfl rfl) (by omega)
    · refine to_an (pc := 23) rw_239_23 rfl (s_gR (pc := 24) rw_239_24 hG rfl (v := 86) rfl (to_i (pc := 27) rw_239_27 rfl (s_ial (pc := 29) rw_239_29 hG rfl (n := 24) rfl rfl (A := x8.toInt) rfl (by omega) (by omega) (lo := 0) (hi := 7) rfl rfl (fun v80 w_81 _ _ => ?_))))
      have z_82 := PLk_w g7 7 86 rfl (by decide) (by decide) (k := x8.toInt) (by omega) (by omega) w_81
      refine to_in (pc := 30) rw_239_30 rfl (b_cne (pc := 31) rw_239_31 (A := v80.toInt) (B := f.toInt) rfl rfl (fun h83 => ?_) (fun h83 => ?_))
      · refine s_inc (pc := 68) rw_239_68 (ls2 := fun v => [.ref 77, u1, .int f, .int t, .int w, .long y5, .null, .int x7, .int v, u9, u10, u11, u12, u13, u14, u15]) rfl rfl (fun _ => rfl) (A := x8.toInt) (B := 1) rfl rfl (by omega) (fun v84 e85 => to_go (pc := 71) rw_239_71 ?_)
        exact ih N (u1) y5 x7 v84 (u9) (u10) (u11) (u12) (u13) (u14) (u15) hG F0 (by omega) (by omega) (by omega) (by omega) (by omega) (by omega) g7 g8 g9 g10 (MWr_n g11 (fun i => rfl) (by omega) (by omega) (by omega) (by omega) (fun z => by have := z.1; omega)) (by omega)
      · refine to_an (pc := 34) rw_239_34 rfl (s_gR (pc := 35) rw_239_35 hG rfl (v := 95) rfl (to_i (pc := 38) rw_239_38 rfl (s_lalE (pc := 40) rw_239_40 hG rfl (n := 12) rfl (A := x8.toInt) rfl (by omega) (by omega) (fun l86 w_87 => ?_))))
        have z_88 : l86 = K.2.2.2 (x8.toInt).toNat := KST_ld (K := K) g8 (by omega) (by omega) w_87
        refine to_l (pc := 41) rw_239_41 rfl rfl rfl (to_cl (pc := 43) rw_239_43 rfl (x := (-1 : Int64)) rfl (to_2l (pc := 46) rw_239_46 (v := (y5 ^^^ (-1 : Int64))) rfl (to_2l (pc := 47) rw_239_47 (v := (l86 &&& (y5 ^^^ (-1 : Int64)))) rfl (to_cl (pc := 48) rw_239_48 rfl (x := (0 : Int64)) rfl (s_lcmpE (pc := 49) rw_239_49 (fun v89 e90 => ?_))))))
        have b_91 := x_eq_b (x := (l86 &&& (y5 ^^^ (-1 : Int64)))) (y := (0 : Int64))
        have z_92 : x_eq ((x_hf sg K c.toInt f.toInt) &&& K.2.2.2 (x8.toInt).toNat) (K.2.2.2 (x8.toInt).toNat) = x_eq (l86 &&& (y5 ^^^ (-1 : Int64))) (0 : Int64) := by rw [x_dr_r, g9, z_88]
        refine b_ieq (pc := 50) rw_239_50 (A := v89.toInt) rfl (fun h93 => ?_) (fun h93 => ?_)
        · refine to_an (pc := 56) rw_239_56 rfl (s_gR (pc := 57) rw_239_57 hG rfl (v := 119) rfl (to_i (pc := 60) rw_239_60 rfl (to_i (pc := 62) rw_239_62 rfl (s_ias (pc := 64) rw_239_64 hG rfl (n := 12) rfl (A := x7.toInt) rfl (by omega) (by omega) (fun M95 W94 => ?_)))))
          have hG96 := g_w hG W94 (A := x8.toInt) rfl (lo := 0) (hi := 11) rfl rfl (by omega) (by decide)
          have F97 := FR.w F0 W94 (show 119 = 119 by decide)
          refine s_inc (pc := 65) rw_239_65 (ls2 := fun v => [.ref 77, u1, .int f, .int t, .int w, .long y5, .null, .int v, .int x8, u9, u10, u11, u12, u13, u14, u15]) rfl rfl (fun _ => rfl) (A := x7.toInt) (B := 1) rfl rfl (by omega) (fun v98 e99 => s_inc (pc := 68) rw_239_68 (ls2 := fun v => [.ref 77, u1, .int f, .int t, .int w, .long y5, .null, .int v98, .int v, u9, u10, u11, u12, u13, u14, u15]) rfl rfl (fun _ => rfl) (A := x8.toInt) (B := 1) rfl rfl (by omega) (fun v100 e101 => to_go (pc := 71) rw_239_71 ?_))
          have j_102 := (PLk_f (fun a i z => W_n W94 (tg_146 a i _ z) rfl) g7)
          have kn_103 : KST M95 96 98 97 95 ca sg K := KST_f (fun i => (W_j W94 rfl)) (fun i => (W_n W94 (by omega) rfl)) (fun i => (W_n W94 (by omega) rfl)) (fun i => (W_j W94 rfl)) g8
          exact ih M95 (u1) y5 v98 v100 (u9) (u10) (u11) (u12) (u13) (u14) (u15) hG96 F97 (by omega) (by omega) (by omega) (by omega) (by omega) (by omega) j_102 kn_103 g9 g10 (MWr_y g11 W94 (by omega) (by omega) (by omega) (by omega) (by omega) (by omega) ⟨by omega, x_eq_1.mp (by omega)⟩) (by omega)
        · refine to_go (pc := 53) rw_239_53 (s_inc (pc := 68) rw_239_68 (ls2 := fun v => [.ref 77, u1, .int f, .int t, .int w, .long y5, .null, .int x7, .int v, u9, u10, u11, u12, u13, u14, u15]) rfl rfl (fun _ => rfl) (A := x8.toInt) (B := 1) rfl rfl (by omega) (fun v104 e105 => to_go (pc := 71) rw_239_71 ?_))
          exact ih N (u1) y5 x7 v104 (u9) (u10) (u11) (u12) (u13) (u14) (u15) hG F0 (by omega) (by omega) (by omega) (by omega) (by omega) (by omega) g7 g8 g9 g10 (MWr_n g11 (fun i => rfl) (by omega) (by omega) (by omega) (by omega) (fun z => by have := x_eq_1.mpr z.2; omega)) (by omega)
set_option maxRecDepth 4000 in
set_option maxHeartbeats 0 in
theorem E_239 {X : mm_X} {d : Nat} {M : mm_M} {Q : Option Value → mm_M → Prop} {c : Int32} {f : Int32} {t : Int32} {w : Int32} {sg : x_S} {ca : Int} {K : x_Kn} (hX : g_X X) (hd : 2 ≤ d) (hG : g_G M) (q1 : 0 ≤ c.toInt) (q2 : c.toInt < ca) (q3 : ca ≤ 30) (q4 : 0 ≤ f.toInt) (q5 : f.toInt < sg.2.1) (q6 : 0 ≤ w.toInt) (q7 : w.toInt ≤ 2) (q8 : PLk M sg) (q9 : KST M 96 98 97 95 ca sg K) (h : ∀ (r : Int32) (M1 : mm_M), g_G M1 → FR md_mw M M1 → (r.toInt = x_mres (x_mt (x_hf sg K c.toInt f.toInt) t.toInt K.2.2.2 (x_mwf sg f.toInt (x_hf sg K c.toInt f.toInt) K.2.2.2) 0 0) 4095 w.toInt) → Q (some (.int r)) M1) : mm_T X d 238 0 [.ref 77, .int c, .int f, .int t, .int w, .null, .null, .null, .null, .null, .null, .null, .null, .null, .null, .null] [] M Q := by
  have F0 : FR md_mw M M := FR.rf
  have z_106 := q8.2.1
  have z_107 := q8.2.2.1
  have z_108 := q8.2.2.2.1
  have z_109 := q8.1
  have z_110 := z_109.1
  have z_111 := z_109.2.1
  have z_112 := z_109.2.2.1
  have z_113 := z_109.2.2.2.1
  have z_114 := z_109.2.2.2.2.1
  have z_115 := z_109.2.2.2.2.2.1
  have b_116 := g_b hG (a := 77) (i := 11) (lo := 10) (hi := 60) rfl rfl
  have b_117 := g_b hG (a := 77) (i := 12) (lo := 0) (hi := 8) rfl rfl
  have b_118 := g_b hG (a := 77) (i := 13) (lo := 0) (hi := 12) rfl rfl
  have z_119 := q8.1.2.2.2.2.2.2.2 f.toInt (by omega) (by omega)
  refine to_an (pc := 0) rw_239_0 rfl (to_in (pc := 1) rw_239_1 rfl (to_in (pc := 2) rw_239_2 rfl (s_v (pc := 3) rw_239_3 (dp0 hd (by decide)) (ls0 := [.ref 77, .int c, .int f]) rfl (Nat.le_of_ble_eq_true rfl) (Nat.le_of_ble_eq_true rfl) rfl (to_rc rfl rfl rfl (g_o hG rfl)) rfl (E_232 hX (dp1 hd (by decide)) hG (by omega) (by omega) (by omega) (by omega) (by omega) q8 q9 (c := c) (f := f) (sg := sg) (ca := ca) (K := K) (fun r120 M124 hG122 F121 p_123 => ?_)))))
  have F125 := FR.c F0 F121 tg_145
  refine to_ls (pc := 6) rw_239_6 (ls2 := [.ref 77, .int c, .int f, .int t, .int w, .long r120, .null, .null, .null, .null, .null, .null, .null, .null, .null, .null]) rfl rfl (to_c (pc := 8) rw_239_8 (x := (0 : Int32)) rfl rfl (to_is (pc := 9) rw_239_9 (ls2 := [.ref 77, .int c, .int f, .int t, .int w, .long r120, .null, .int (0 : Int32), .null, .null, .null, .null, .null, .null, .null, .null]) rfl rfl (to_c (pc := 11) rw_239_11 (x := (0 : Int32)) rfl rfl (to_is (pc := 12) rw_239_12 (ls2 := [.ref 77, .int c, .int f, .int t, .int w, .long r120, .null, .int (0 : Int32), .int (0 : Int32), .null, .null, .null, .null, .null, .null, .null]) rfl rfl ?_))))
  have k_126 : (0 : Int32).toInt = 0 := rfl
  have j_127 := (PLk_f (tg_101 F121) q8)
  have kn_128 : KST M124 96 98 97 95 ca sg K := KST_f (fun i => (F_nl F121 (show ¬ (96 < 0) by decide) rfl)) (fun i => (F_n F121 (show ¬ (98 < 0) by decide) rfl)) (fun i => (F_n F121 (show ¬ (97 < 0) by decide) rfl)) (fun i => (F_nl F121 (show ¬ (95 < 0) by decide) rfl)) q9
  have z_129 := x_bw_q (f := x_row sg 3 f.toInt) (l := x_row sg 4 f.toInt) (a := r120) (b := K.1 (c.toInt).toNat) (by omega) (by omega) (by omega) p_123
  exact (U_239_1 (c := c) (f := f) (t := t) (w := w) (sg := sg) (ca := ca) (K := K) hX hd q1 q2 q3 q4 q5 q6 q7 q8 q9 h ((12 - (0 : Int32).toInt).toNat + 1)) M124 (.int c) r120 (0 : Int32) (0 : Int32) (.null) (.null) (.null) (.null) (.null) (.null) (.null) hG122 F125 (by omega) (by omega) (by omega) (by omega) (by omega) (by omega) j_127 kn_128 p_123 z_129 (MWr_0 (by omega) (by omega)) (by omega)
