theorem tg_343 {M M1 : mm_M} (F : FR (fun a i : Nat => a < 0) M M1) : ∀ a i : Nat, KQ_r a i → M1.2.1 a i = M.2.1 a i := fun a i z => F_n F (show ¬ (a < 0) by omega) rfl
theorem tg_344 {M M1 : mm_M} (F : FR (fun a i : Nat => a = 117) M M1) : ∀ a i : Nat, KQ_r a i → M1.2.1 a i = M.2.1 a i := fun a i z => F_n F (show ¬ (a = 117) by omega) rfl
theorem tg_345 {M M1 : mm_M} (F : FR (fun a i : Nat => 94 ≤ a ∧ a ≤ 98) M M1) : ∀ a i : Nat, KQ_r a i → M1.2.1 a i = M.2.1 a i := fun a i z => F_n F (show ¬ (94 ≤ a ∧ a ≤ 98) by omega) rfl
theorem tg_346 {M M1 : mm_M} (F : FR (fun a i : Nat => 94 ≤ a ∧ a ≤ 98) M M1) : ∀ a i : Nat, (81 ≤ a ∧ a ≤ 84) → M1.2.1 a i = M.2.1 a i := fun a i z => F_n F (show ¬ (94 ≤ a ∧ a ≤ 98) by omega) rfl
theorem tg_347 : ∀ a i : Nat, (a < 0) → (a = 117) := fun a i z => by omega
theorem tg_348 : ∀ a i : Nat, (a = 117) → (a = 77 ∧ i = 2 ∨ 94 ≤ a ∧ a ≤ 98 ∨ a = 117) := fun a i z => by omega
theorem tg_349 : ∀ a i : Nat, (94 ≤ a ∧ a ≤ 98) → (a = 77 ∧ i = 2 ∨ 94 ≤ a ∧ a ≤ 98 ∨ a = 117) := fun a i z => by omega
theorem tg_350 : ∀ a i : Nat, (a < 0) → (a = 119) := fun a i z => by omega
theorem tg_351 : ∀ a i : Nat, (94 ≤ a ∧ a ≤ 98) → (a = 77 ∧ i = 2 ∨ 94 ≤ a ∧ a ≤ 98 ∨ a = 119) := fun a i z => by omega
theorem tg_352 : ∀ a i : Nat, (a < 0) → (a = 77 ∧ i = 2 ∨ 94 ≤ a ∧ a ≤ 98 ∨ a = 119) := fun a i z => by omega
theorem tg_353 : ∀ a i : Nat, (a = 119) → (a = 77 ∧ i = 2 ∨ 94 ≤ a ∧ a ≤ 98 ∨ a = 119) := fun a i z => by omega
theorem tg_354 : ∀ a i : Nat, (94 ≤ a ∧ a ≤ 98) → (a = 77 ∧ i = 2 ∨ 94 ≤ a ∧ a ≤ 98 ∨ a = 120) := fun a i z => by omega
set_option maxRecDepth 4000 in
set_option maxHeartbeats 0 in
theorem T_228_0 {X : mm_X} {d : Nat} {M : mm_M} {Q : Option Value → mm_M → Prop} {c : Int32} {t : Int32} (hX : g_X X) (hd : 1 ≤ d) (q1 : 0 ≤ c.toInt) (q2 : c.toInt ≤ 29) (q3 : 0 ≤ t.toInt) (q4 : t.toInt ≤ 1) (q5 : 1 ≤ (M.2.1 77 58).toInt) (q6 : KQ M) (h : ∀ (r : Int32) (M1 : mm_M), g_G M1 → FR md_an M M1 → (0 ≤ r.toInt) → (r.toInt ≤ 1) → Q (some (.int r)) M1) : ∀ nn9 : Nat, (∀ (N : mm_M) (x3 : Int32) (u4 : Value) (u5 : Value), g_G N → FR md_an M N → (0 ≤ x3.toInt) → (x3.toInt ≤ 40) → (1 ≤ (N.2.1 77 58).toInt) → (KQ N) → 40 - x3.toInt < (nn9 : Int) → mm_T X d 227 2 [.ref 77, .int c, .int t, .int x3, u4, u5] [] N Q) := by
  intro nn9
  induction nn9 with
  | zero =>
    intro N x3 u4 u5 hG F0 g1 g2 g3 g4 hm
    have b_1 := g_b hG (a := 77) (i := 58) (lo := 0) (hi := 40) rfl rfl
    exfalso; omega
  | succ nn9 ih =>
    intro N x3 u4 u5 hG F0 g1 g2 g3 g4 hm
    have b_2 := g_b hG (a := 77) (i := 58) (lo := 0) (hi := 40) rfl rfl
    refine to_in (pc := 2) rw_228_2 rfl (to_an (pc := 3) rw_228_3 rfl (tt_gI (pc := 4) rw_228_4 (g_o hG rfl) (v := (N.2.1 77 58)) rfl (b_cge (pc := 7) rw_228_7 (A := x3.toInt) (B := (N.2.1 77 58).toInt) rfl rfl (fun h3 => ?_) (fun h3 => ?_))))
    · refine to_an (pc := 290) rw_228_290 rfl (s_gR (pc := 291) rw_228_291 hG rfl (v := 117) rfl (to_an (pc := 294) rw_228_294 rfl (tt_gI (pc := 295) rw_228_295 (g_o hG rfl) (v := (N.2.1 77 58)) rfl (to_c (pc := 298) rw_228_298 (x := (1 : Int32)) rfl rfl (s_sub (pc := 299) rw_228_299 (A := (N.2.1 77 58).toInt) (B := 1) rfl rfl (by omega) (fun v4 e5 => s_bal (pc := 300) rw_228_300 hG rfl (n := 40) rfl (A := v4.toInt) rfl (by omega) (by omega) (lo := 0) (hi := 1) rfl rfl (fun v6 w_7 _ _ => s_r1 (pc := 301) rw_228_301 (A := v6.toInt) rfl (by omega) ?_)))))))
      exact h v6 N hG F0 (by omega) (by omega)
    · refine to_an (pc := 10) rw_228_10 rfl (s_gR (pc := 11) rw_228_11 hG rfl (v := 113) rfl (to_in (pc := 14) rw_228_14 rfl (s_ial (pc := 15) rw_228_15 hG rfl (n := 80) rfl rfl (A := x3.toInt) rfl (by omega) (by omega) (lo := 0) (hi := 39) rfl rfl (fun v8 w_9 _ _ => ?_))))
      have j_10 := KQ_u (A := x3.toInt) g4 (by omega) (by omega) (by omega)
      rw [w_9] at j_10
      refine to_is (pc := 16) rw_228_16 (ls2 := [.ref 77, .int c, .int t, .int x3, .int v8, u5]) rfl rfl (to_an (pc := 18) rw_228_18 rfl (s_gR (pc := 19) rw_228_19 hG rfl (v := 114) rfl (to_in (pc := 22) rw_228_22 rfl (s_ial (pc := 23) rw_228_23 hG rfl (n := 80) rfl rfl (A := x3.toInt) rfl (by omega) (by omega) (lo := -2147483648) (hi := 2147483647) rfl rfl (fun v11 w_12 _ _ => ?_)))))
      rw [w_12] at j_10
      refine to_is (pc := 24) rw_228_24 (ls2 := [.ref 77, .int c, .int t, .int x3, .int v8, .int v11]) rfl rfl (to_an (pc := 26) rw_228_26 rfl (s_gR (pc := 27) rw_228_27 hG rfl (v := 112) rfl (to_in (pc := 30) rw_228_30 rfl (s_ial (pc := 31) rw_228_31 hG rfl (n := 80) rfl rfl (A := x3.toInt) rfl (by omega) (by omega) (lo := 0) (hi := 4) rfl rfl (fun v13 w_14 _ _ => ?_)))))
      rw [w_14] at j_10
      rcases (show v13.toInt = 0 ∨ v13.toInt = 1 ∨ v13.toInt = 2 ∨ v13.toInt = 3 ∨ (v13.toInt < 0 ∨ 3 < v13.toInt) by omega) with h15 | h15 | h15 | h15 | h15
      · refine s_sw (pc := 32) rw_228_32 (A := v13.toInt) (k := 0) (t := 64) rfl h15 (by decide) rfl (to_an (pc := 64) rw_228_64 rfl (s_gR (pc := 65) rw_228_65 hG rfl (v := 117) rfl (to_in (pc := 68) rw_228_68 rfl (to_in (pc := 69) rw_228_69 rfl (b_ieq (pc := 70) rw_228_70 (A := t.toInt) rfl (fun h16 => ?_) (fun h16 => ?_))))))
        · refine to_an (pc := 98) rw_228_98 rfl (to_i (pc := 99) rw_228_99 rfl (to_i (pc := 101) rw_228_101 rfl (s_v (pc := 103) rw_228_103 (dp0 hd (by decide)) (ls0 := [.ref 77, .int v8, .int v11]) rfl (Nat.le_of_ble_eq_true rfl) (Nat.le_of_ble_eq_true rfl) rfl (to_rc rfl rfl rfl (g_o hG rfl)) rfl (C_183 hX (dp1 hd (by decide)) hG (by omega) (by omega) (by omega) (by omega) (f := v8) (v := v11) (fun r17 M20 hG19 F18 => ?_)))))
          have F21 := FR.c F0 F18 tg_347
          refine to_an (pc := 106) rw_228_106 rfl (s_gR (pc := 107) rw_228_107 hG19 rfl (v := 96) rfl (to_in (pc := 110) rw_228_110 rfl (s_lal (pc := 111) rw_228_111 hG19 rfl (n := 30) rfl (A := c.toInt) rfl (by omega) (by omega) (fun l22 => s_cl (pc := 112) rw_228_112 rfl (fun l23 => s_anyL (pc := 115) rw_228_115 (fun _ _ => rfl) (fun l24 => s_anyL (pc := 116) rw_228_116 (fun _ _ => rfl) (fun l25 => s_cl (pc := 117) rw_228_117 rfl (fun l26 => s_lcmp (pc := 118) rw_228_118 (fun v27 => b_ine (pc := 119) rw_228_119 (A := v27.toInt) rfl (fun h28 => ?_) (fun h28 => ?_))))))))))
          · refine to_c (pc := 126) rw_228_126 (x := (0 : Int32)) rfl rfl (s_zas (pc := 127) rw_228_127 hG19 rfl (n := 40) rfl (A := x3.toInt) rfl (by omega) (by omega) (B := 0) rfl (by omega) (fun M30 W29 => ?_))
            have hG31 := g_w hG19 W29 (A := 0) rfl (lo := 0) (hi := 1) rfl rfl (by omega) (by decide)
            have F32 := FR.w F21 W29 (show 117 = 117 by decide)
            refine to_go (pc := 128) rw_228_128 (s_inc (pc := 284) rw_228_284 (ls2 := fun v => [.ref 77, .int c, .int t, .int v, .int v8, .int v11]) rfl rfl (fun _ => rfl) (A := x3.toInt) (B := 1) rfl rfl (by omega) (fun v33 e34 => to_go (pc := 287) rw_228_287 ?_))
            have c_35 : M30.2.1 77 58 = (N.2.1 77 58) := (W_n W29 (fun z => absurd z.1 (by decide)) (F_n F18 (show ¬ (77 < 0) by decide) rfl))
            have t_36 : (M30.2.1 77 58).toInt = (N.2.1 77 58).toInt := congrArg Int32.toInt c_35
            have j_37 := (KQ_f (fun a i z => W_n W29 (by /-r117-/ omega) rfl) (KQ_f (tg_343 F18) g4))
            exact ih M30 v33 (.int v8) (.int v11) hG31 F32 (by omega) (by omega) (by omega) j_37 (by omega)
          · refine to_c (pc := 122) rw_228_122 (x := (1 : Int32)) rfl rfl (to_go (pc := 123) rw_228_123 (s_zas (pc := 127) rw_228_127 hG19 rfl (n := 40) rfl (A := x3.toInt) rfl (by omega) (by omega) (B := 1) rfl (by omega) (fun M39 W38 => ?_)))
            have hG40 := g_w hG19 W38 (A := 1) rfl (lo := 0) (hi := 1) rfl rfl (by omega) (by decide)
            have F41 := FR.w F21 W38 (show 117 = 117 by decide)
            refine to_go (pc := 128) rw_228_128 (s_inc (pc := 284) rw_228_284 (ls2 := fun v => [.ref 77, .int c, .int t, .int v, .int v8, .int v11]) rfl rfl (fun _ => rfl) (A := x3.toInt) (B := 1) rfl rfl (by omega) (fun v42 e43 => to_go (pc := 287) rw_228_287 ?_))
            have c_44 : M39.2.1 77 58 = (N.2.1 77 58) := (W_n W38 (fun z => absurd z.1 (by decide)) (F_n F18 (show ¬ (77 < 0) by decide) rfl))
            have t_45 : (M39.2.1 77 58).toInt = (N.2.1 77 58).toInt := congrArg Int32.toInt c_44
            have j_46 := (KQ_f (fun a i z => W_n W38 (by /-r117-/ omega) rfl) (KQ_f (tg_343 F18) g4))
            exact ih M39 v42 (.int v8) (.int v11) hG40 F41 (by omega) (by omega) (by omega) j_46 (by omega)
        · refine to_an (pc := 73) rw_228_73 rfl (s_gR (pc := 74) rw_228_74 hG rfl (v := 97) rfl (to_c (pc := 77) rw_228_77 (x := (8 : Int32)) rfl rfl (to_in (pc := 79) rw_228_79 rfl (s_mul (pc := 80) rw_228_80 (A := 8) (B := c.toInt) rfl rfl (by omega) (fun v47 e48 => to_i (pc := 81) rw_228_81 rfl (s_add (pc := 83) rw_228_83 (A := v47.toInt) (B := v8.toInt) rfl rfl (by omega) (fun v49 e50 => s_ial (pc := 84) rw_228_84 hG rfl (n := 240) rfl rfl (A := v49.toInt) rfl (by omega) (by omega) (lo := -2147483648) (hi := 2147483647) rfl rfl (fun v51 w_52 _ _ => to_i (pc := 85) rw_228_85 rfl (b_cne (pc := 87) rw_228_87 (A := v51.toInt) (B := v11.toInt) rfl rfl (fun h53 => ?_) (fun h53 => ?_))))))))))
          · refine to_c (pc := 94) rw_228_94 (x := (0 : Int32)) rfl rfl (to_go (pc := 95) rw_228_95 (s_zas (pc := 127) rw_228_127 hG rfl (n := 40) rfl (A := x3.toInt) rfl (by omega) (by omega) (B := 0) rfl (by omega) (fun M55 W54 => ?_)))
            have hG56 := g_w hG W54 (A := 0) rfl (lo := 0) (hi := 1) rfl rfl (by omega) (by decide)
            have F57 := FR.w F0 W54 (show 117 = 117 by decide)
            refine to_go (pc := 128) rw_228_128 (s_inc (pc := 284) rw_228_284 (ls2 := fun v => [.ref 77, .int c, .int t, .int v, .int v8, .int v11]) rfl rfl (fun _ => rfl) (A := x3.toInt) (B := 1) rfl rfl (by omega) (fun v58 e59 => to_go (pc := 287) rw_228_287 ?_))
            have c_60 : M55.2.1 77 58 = (N.2.1 77 58) := (W_n W54 (fun z => absurd z.1 (by decide)) rfl)
            have t_61 : (M55.2.1 77 58).toInt = (N.2.1 77 58).toInt := congrArg Int32.toInt c_60
            have j_62 := (KQ_f (fun a i z => W_n W54 (by /-r117-/ omega) rfl) g4)
            exact ih M55 v58 (.int v8) (.int v11) hG56 F57 (by omega) (by omega) (by omega) j_62 (by omega)
          · refine to_c (pc := 90) rw_228_90 (x := (1 : Int32)) rfl rfl (to_go (pc := 91) rw_228_91 (s_zas (pc := 127) rw_228_127 hG rfl (n := 40) rfl (A := x3.toInt) rfl (by omega) (by omega) (B := 1) rfl (by omega) (fun M64 W63 => ?_)))
            have hG65 := g_w hG W63 (A := 1) rfl (lo := 0) (hi := 1) rfl rfl (by omega) (by decide)
            have F66 := FR.w F0 W63 (show 117 = 117 by decide)
            refine to_go (pc := 128) rw_228_128 (s_inc (pc := 284) rw_228_284 (ls2 := fun v => [.ref 77, .int c, .int t, .int v, .int v8, .int v11]) rfl rfl (fun _ => rfl) (A := x3.toInt) (B := 1) rfl rfl (by omega) (fun v67 e68 => to_go (pc := 287) rw_228_287 ?_))
            have c_69 : M64.2.1 77 58 = (N.2.1 77 58) := (W_n W63 (fun z => absurd z.1 (by decide)) rfl)
            have t_70 : (M64.2.1 77 58).toInt = (N.2.1 77 58).toInt := congrArg Int32.toInt c_69
            have j_71 := (KQ_f (fun a i z => W_n W63 (by /-r117-/ omega) rfl) g4)
            exact ih M64 v67 (.int v8) (.int v11) hG65 F66 (by omega) (by omega) (by omega) j_71 (by omega)
      · refine s_sw (pc := 32) rw_228_32 (A := v13.toInt) (k := 1) (t := 131) rfl h15 (by decide) rfl (to_an (pc := 131) rw_228_131 rfl (s_gR (pc := 132) rw_228_132 hG rfl (v := 117) rfl (to_in (pc := 135) rw_228_135 rfl (to_in (pc := 136) rw_228_136 rfl (b_ieq (pc := 137) rw_228_137 (A := t.toInt) rfl (fun h72 => ?_) (fun h72 => ?_))))))
        · refine to_an (pc := 163) rw_228_163 rfl (s_gR (pc := 164) rw_228_164 hG rfl (v := 95) rfl (to_i (pc := 167) rw_228_167 rfl (s_lal (pc := 169) rw_228_169 hG rfl (n := 12) rfl (A := v8.toInt) rfl (by omega) (by omega) (fun l73 => to_an (pc := 170) rw_228_170 rfl (s_gR (pc := 171) rw_228_171 hG rfl (v := 96) rfl (to_in (pc := 174) rw_228_174 rfl (s_lal (pc := 175) rw_228_175 hG rfl (n := 30) rfl (A := c.toInt) rfl (by omega) (by omega) (fun l74 => s_cl (pc := 176) rw_228_176 rfl (fun l75 => s_anyL (pc := 179) rw_228_179 (fun _ _ => rfl) (fun l76 => s_anyL (pc := 180) rw_228_180 (fun _ _ => rfl) (fun l77 => s_cl (pc := 181) rw_228_181 rfl (fun l78 => ?_))))))))))))
          refine s_lcmp (pc := 182) rw_228_182 (fun v79 => b_ine (pc := 183) rw_228_183 (A := v79.toInt) rfl (fun h80 => ?_) (fun h80 => ?_))
          · refine to_c (pc := 190) rw_228_190 (x := (0 : Int32)) rfl rfl (s_zas (pc := 191) rw_228_191 hG rfl (n := 40) rfl (A := x3.toInt) rfl (by omega) (by omega) (B := 0) rfl (by omega) (fun M82 W81 => ?_))
            have hG83 := g_w hG W81 (A := 0) rfl (lo := 0) (hi := 1) rfl rfl (by omega) (by decide)
            have F84 := FR.w F0 W81 (show 117 = 117 by decide)
            refine to_go (pc := 192) rw_228_192 (s_inc (pc := 284) rw_228_284 (ls2 := fun v => [.ref 77, .int c, .int t, .int v, .int v8, .int v11]) rfl rfl (fun _ => rfl) (A := x3.toInt) (B := 1) rfl rfl (by omega) (fun v85 e86 => to_go (pc := 287) rw_228_287 ?_))
            have c_87 : M82.2.1 77 58 = (N.2.1 77 58) := (W_n W81 (fun z => absurd z.1 (by decide)) rfl)
            have t_88 : (M82.2.1 77 58).toInt = (N.2.1 77 58).toInt := congrArg Int32.toInt c_87
            have j_89 := (KQ_f (fun a i z => W_n W81 (by /-r117-/ omega) rfl) g4)
            exact ih M82 v85 (.int v8) (.int v11) hG83 F84 (by omega) (by omega) (by omega) j_89 (by omega)
          · refine to_c (pc := 186) rw_228_186 (x := (1 : Int32)) rfl rfl (to_go (pc := 187) rw_228_187 (s_zas (pc := 191) rw_228_191 hG rfl (n := 40) rfl (A := x3.toInt) rfl (by omega) (by omega) (B := 1) rfl (by omega) (fun M91 W90 => ?_)))
            have hG92 := g_w hG W90 (A := 1) rfl (lo := 0) (hi := 1) rfl rfl (by omega) (by decide)
            have F93 := FR.w F0 W90 (show 117 = 117 by decide)
            refine to_go (pc := 192) rw_228_192 (s_inc (pc := 284) rw_228_284 (ls2 := fun v => [.ref 77, .int c, .int t, .int v, .int v8, .int v11]) rfl rfl (fun _ => rfl) (A := x3.toInt) (B := 1) rfl rfl (by omega) (fun v94 e95 => to_go (pc := 287) rw_228_287 ?_))
            have c_96 : M91.2.1 77 58 = (N.2.1 77 58) := (W_n W90 (fun z => absurd z.1 (by decide)) rfl)
            have t_97 : (M91.2.1 77 58).toInt = (N.2.1 77 58).toInt := congrArg Int32.toInt c_96
            have j_98 := (KQ_f (fun a i z => W_n W90 (by /-r117-/ omega) rfl) g4)
            exact ih M91 v94 (.int v8) (.int v11) hG92 F93 (by omega) (by omega) (by omega) j_98 (by omega)
        · refine to_an (pc := 140) rw_228_140 rfl (s_gR (pc := 141) rw_228_141 hG rfl (v := 98) rfl (to_in (pc := 144) rw_228_144 rfl (s_ial (pc := 145) rw_228_145 hG rfl (n := 30) rfl rfl (A := c.toInt) rfl (by omega) (by omega) (lo := -2147483648) (hi := 2147483647) rfl rfl (fun v99 w_100 _ _ => to_i (pc := 146) rw_228_146 rfl (s_any (pc := 148) rw_228_148 (fun _ _ => rfl) (fun v101 => to_c (pc := 149) rw_228_149 (x := (1 : Int32)) rfl rfl (s_and (pc := 150) rw_228_150 (B := 1) rfl (by omega) (fun v102 e103 _ _ => to_c (pc := 151) rw_228_151 (x := (1 : Int32)) rfl rfl (b_cne (pc := 152) rw_228_152 (A := v102.toInt) (B := 1) rfl rfl (fun h104 => ?_) (fun h104 => ?_))))))))))
          · refine to_c (pc := 159) rw_228_159 (x := (0 : Int32)) rfl rfl (to_go (pc := 160) rw_228_160 (s_zas (pc := 191) rw_228_191 hG rfl (n := 40) rfl (A := x3.toInt) rfl (by omega) (by omega) (B := 0) rfl (by omega) (fun M106 W105 => ?_)))
            have hG107 := g_w hG W105 (A := 0) rfl (lo := 0) (hi := 1) rfl rfl (by omega) (by decide)
            have F108 := FR.w F0 W105 (show 117 = 117 by decide)
            refine to_go (pc := 192) rw_228_192 (s_inc (pc := 284) rw_228_284 (ls2 := fun v => [.ref 77, .int c, .int t, .int v, .int v8, .int v11]) rfl rfl (fun _ => rfl) (A := x3.toInt) (B := 1) rfl rfl (by omega) (fun v109 e110 => to_go (pc := 287) rw_228_287 ?_))
            have c_111 : M106.2.1 77 58 = (N.2.1 77 58) := (W_n W105 (fun z => absurd z.1 (by decide)) rfl)
            have t_112 : (M106.2.1 77 58).toInt = (N.2.1 77 58).toInt := congrArg Int32.toInt c_111
            have j_113 := (KQ_f (fun a i z => W_n W105 (by /-r117-/ omega) rfl) g4)
            exact ih M106 v109 (.int v8) (.int v11) hG107 F108 (by omega) (by omega) (by omega) j_113 (by omega)
          · refine to_c (pc := 155) rw_228_155 (x := (1 : Int32)) rfl rfl (to_go (pc := 156) rw_228_156 (s_zas (pc := 191) rw_228_191 hG rfl (n := 40) rfl (A := x3.toInt) rfl (by omega) (by omega) (B := 1) rfl (by omega) (fun M115 W114 => ?_)))
            have hG116 := g_w hG W114 (A := 1) rfl (lo := 0) (hi := 1) rfl rfl (by omega) (by decide)
            have F117 := FR.w F0 W114 (show 117 = 117 by decide)
            refine to_go (pc := 192) rw_228_192 (s_inc (pc := 284) rw_228_284 (ls2 := fun v => [.ref 77, .int c, .int t, .int v, .int v8, .int v11]) rfl rfl (fun _ => rfl) (A := x3.toInt) (B := 1) rfl rfl (by omega) (fun v118 e119 => to_go (pc := 287) rw_228_287 ?_))
            have c_120 : M115.2.1 77 58 = (N.2.1 77 58) := (W_n W114 (fun z => absurd z.1 (by decide)) rfl)
            have t_121 : (M115.2.1 77 58).toInt = (N.2.1 77 58).toInt := congrArg Int32.toInt c_120
            have j_122 := (KQ_f (fun a i z => W_n W114 (by /-r117-/ omega) rfl) g4)
            exact ih M115 v118 (.int v8) (.int v11) hG116 F117 (by omega) (by omega) (by omega) j_122 (by omega)
      · refine s_sw (pc := 32) rw_228_32 (A := v13.toInt) (k := 2) (t := 195) rfl h15 (by decide) rfl (to_an (pc := 195) rw_228_195 rfl (s_gR (pc := 196) rw_228_196 hG rfl (v := 117) rfl (to_in (pc := 199) rw_228_199 rfl (to_an (pc := 200) rw_228_200 rfl (s_gR (pc := 201) rw_228_201 hG rfl (v := 117) rfl (to_i (pc := 204) rw_228_204 rfl (s_bal (pc := 206) rw_228_206 hG rfl (n := 40) rfl (A := v8.toInt) rfl (by omega) (by omega) (lo := 0) (hi := 1) rfl rfl (fun v123 w_124 _ _ => b_ine (pc := 207) rw_228_207 (A := v123.toInt) rfl (fun h125 => ?_) (fun h125 => ?_)))))))))
        · refine to_c (pc := 214) rw_228_214 (x := (0 : Int32)) rfl rfl (s_zas (pc := 215) rw_228_215 hG rfl (n := 40) rfl (A := x3.toInt) rfl (by omega) (by omega) (B := 0) rfl (by omega) (fun M127 W126 => ?_))
          have hG128 := g_w hG W126 (A := 0) rfl (lo := 0) (hi := 1) rfl rfl (by omega) (by decide)
          have F129 := FR.w F0 W126 (show 117 = 117 by decide)
          refine to_go (pc := 216) rw_228_216 (s_inc (pc := 284) rw_228_284 (ls2 := fun v => [.ref 77, .int c, .int t, .int v, .int v8, .int v11]) rfl rfl (fun _ => rfl) (A := x3.toInt) (B := 1) rfl rfl (by omega) (fun v130 e131 => to_go (pc := 287) rw_228_287 ?_))
          have c_132 : M127.2.1 77 58 = (N.2.1 77 58) := (W_n W126 (fun z => absurd z.1 (by decide)) rfl)
          have t_133 : (M127.2.1 77 58).toInt = (N.2.1 77 58).toInt := congrArg Int32.toInt c_132
          have j_134 := (KQ_f (fun a i z => W_n W126 (by /-r117-/ omega) rfl) g4)
          exact ih M127 v130 (.int v8) (.int v11) hG128 F129 (by omega) (by omega) (by omega) j_134 (by omega)
        · refine to_c (pc := 210) rw_228_210 (x := (1 : Int32)) rfl rfl (to_go (pc := 211) rw_228_211 (s_zas (pc := 215) rw_228_215 hG rfl (n := 40) rfl (A := x3.toInt) rfl (by omega) (by omega) (B := 1) rfl (by omega) (fun M136 W135 => ?_)))
          have hG137 := g_w hG W135 (A := 1) rfl (lo := 0) (hi := 1) rfl rfl (by omega) (by decide)
          have F138 := FR.w F0 W135 (show 117 = 117 by decide)
          refine to_go (pc := 216) rw_228_216 (s_inc (pc := 284) rw_228_284 (ls2 := fun v => [.ref 77, .int c, .int t, .int v, .int v8, .int v11]) rfl rfl (fun _ => rfl) (A := x3.toInt) (B := 1) rfl rfl (by omega) (fun v139 e140 => to_go (pc := 287) rw_228_287 ?_))
          have c_141 : M136.2.1 77 58 = (N.2.1 77 58) := (W_n W135 (fun z => absurd z.1 (by decide)) rfl)
          have t_142 : (M136.2.1 77 58).toInt = (N.2.1 77 58).toInt := congrArg Int32.toInt c_141
          have j_143 := (KQ_f (fun a i z => W_n W135 (by /-r117-/ omega) rfl) g4)
          exact ih M136 v139 (.int v8) (.int v11) hG137 F138 (by omega) (by omega) (by omega) j_143 (by omega)
      · refine s_sw (pc := 32) rw_228_32 (A := v13.toInt) (k := 3) (t := 219) rfl h15 (by decide) rfl (to_an (pc := 219) rw_228_219 rfl (s_gR (pc := 220) rw_228_220 hG rfl (v := 117) rfl (to_in (pc := 223) rw_228_223 rfl (to_an (pc := 224) rw_228_224 rfl (s_gR (pc := 225) rw_228_225 hG rfl (v := 117) rfl (to_i (pc := 228) rw_228_228 rfl (s_bal (pc := 230) rw_228_230 hG rfl (n := 40) rfl (A := v8.toInt) rfl (by omega) (by omega) (lo := 0) (hi := 1) rfl rfl (fun v144 w_145 _ _ => b_ieq (pc := 231) rw_228_231 (A := v144.toInt) rfl (fun h146 => ?_) (fun h146 => ?_)))))))))
        · refine to_c (pc := 248) rw_228_248 (x := (0 : Int32)) rfl rfl (s_zas (pc := 249) rw_228_249 hG rfl (n := 40) rfl (A := x3.toInt) rfl (by omega) (by omega) (B := 0) rfl (by omega) (fun M148 W147 => ?_))
          have hG149 := g_w hG W147 (A := 0) rfl (lo := 0) (hi := 1) rfl rfl (by omega) (by decide)
          have F150 := FR.w F0 W147 (show 117 = 117 by decide)
          refine to_go (pc := 250) rw_228_250 (s_inc (pc := 284) rw_228_284 (ls2 := fun v => [.ref 77, .int c, .int t, .int v, .int v8, .int v11]) rfl rfl (fun _ => rfl) (A := x3.toInt) (B := 1) rfl rfl (by omega) (fun v151 e152 => to_go (pc := 287) rw_228_287 ?_))
          have c_153 : M148.2.1 77 58 = (N.2.1 77 58) := (W_n W147 (fun z => absurd z.1 (by decide)) rfl)
          have t_154 : (M148.2.1 77 58).toInt = (N.2.1 77 58).toInt := congrArg Int32.toInt c_153
          have j_155 := (KQ_f (fun a i z => W_n W147 (by /-r117-/ omega) rfl) g4)
          exact ih M148 v151 (.int v8) (.int v11) hG149 F150 (by omega) (by omega) (by omega) j_155 (by omega)
        · refine to_an (pc := 234) rw_228_234 rfl (s_gR (pc := 235) rw_228_235 hG rfl (v := 117) rfl (to_i (pc := 238) rw_228_238 rfl (s_bal (pc := 240) rw_228_240 hG rfl (n := 40) rfl (A := v11.toInt) rfl (by omega) (by omega) (lo := 0) (hi := 1) rfl rfl (fun v156 w_157 _ _ => b_ieq (pc := 241) rw_228_241 (A := v156.toInt) rfl (fun h158 => ?_) (fun h158 => ?_)))))
          · refine to_c (pc := 248) rw_228_248 (x := (0 : Int32)) rfl rfl (s_zas (pc := 249) rw_228_249 hG rfl (n := 40) rfl (A := x3.toInt) rfl (by omega) (by omega) (B := 0) rfl (by omega) (fun M160 W159 => ?_))
            have hG161 := g_w hG W159 (A := 0) rfl (lo := 0) (hi := 1) rfl rfl (by omega) (by decide)
            have F162 := FR.w F0 W159 (show 117 = 117 by decide)
            refine to_go (pc := 250) rw_228_250 (s_inc (pc := 284) rw_228_284 (ls2 := fun v => [.ref 77, .int c, .int t, .int v, .int v8, .int v11]) rfl rfl (fun _ => rfl) (A := x3.toInt) (B := 1) rfl rfl (by omega) (fun v163 e164 => to_go (pc := 287) rw_228_287 ?_))
            have c_165 : M160.2.1 77 58 = (N.2.1 77 58) := (W_n W159 (fun z => absurd z.1 (by decide)) rfl)
            have t_166 : (M160.2.1 77 58).toInt = (N.2.1 77 58).toInt := congrArg Int32.toInt c_165
            have j_167 := (KQ_f (fun a i z => W_n W159 (by /-r117-/ omega) rfl) g4)
            exact ih M160 v163 (.int v8) (.int v11) hG161 F162 (by omega) (by omega) (by omega) j_167 (by omega)
          · refine to_c (pc := 244) rw_228_244 (x := (1 : Int32)) rfl rfl (to_go (pc := 245) rw_228_245 (s_zas (pc := 249) rw_228_249 hG rfl (n := 40) rfl (A := x3.toInt) rfl (by omega) (by omega) (B := 1) rfl (by omega) (fun M169 W168 => ?_)))
            have hG170 := g_w hG W168 (A := 1) rfl (lo := 0) (hi := 1) rfl rfl (by omega) (by decide)
            have F171 := FR.w F0 W168 (show 117 = 117 by decide)
            refine to_go (pc := 250) rw_228_250 (s_inc (pc := 284) rw_228_284 (ls2 := fun v => [.ref 77, .int c, .int t, .int v, .int v8, .int v11]) rfl rfl (fun _ => rfl) (A := x3.toInt) (B := 1) rfl rfl (by omega) (fun v172 e173 => to_go (pc := 287) rw_228_287 ?_))
            have c_174 : M169.2.1 77 58 = (N.2.1 77 58) := (W_n W168 (fun z => absurd z.1 (by decide)) rfl)
            have t_175 : (M169.2.1 77 58).toInt = (N.2.1 77 58).toInt := congrArg Int32.toInt c_174
            have j_176 := (KQ_f (fun a i z => W_n W168 (by /-r117-/ omega) rfl) g4)
            exact ih M169 v172 (.int v8) (.int v11) hG170 F171 (by omega) (by omega) (by omega) j_176 (by omega)
      · refine s_swd (pc := 32) rw_228_32 (A := v13.toInt) rfl h15 (to_an (pc := 253) rw_228_253 rfl (s_gR (pc := 254) rw_228_254 hG rfl (v := 117) rfl (to_in (pc := 257) rw_228_257 rfl (to_an (pc := 258) rw_228_258 rfl (s_gR (pc := 259) rw_228_259 hG rfl (v := 117) rfl (to_i (pc := 262) rw_228_262 rfl (s_bal (pc := 264) rw_228_264 hG rfl (n := 40) rfl (A := v8.toInt) rfl (by omega) (by omega) (lo := 0) (hi := 1) rfl rfl (fun v177 w_178 _ _ => b_ine (pc := 265) rw_228_265 (A := v177.toInt) rfl (fun h179 => ?_) (fun h179 => ?_)))))))))
        · refine to_c (pc := 278) rw_228_278 (x := (1 : Int32)) rfl rfl (to_go (pc := 279) rw_228_279 (s_zas (pc := 283) rw_228_283 hG rfl (n := 40) rfl (A := x3.toInt) rfl (by omega) (by omega) (B := 1) rfl (by omega) (fun M181 W180 => ?_)))
          have hG182 := g_w hG W180 (A := 1) rfl (lo := 0) (hi := 1) rfl rfl (by omega) (by decide)
          have F183 := FR.w F0 W180 (show 117 = 117 by decide)
          refine s_inc (pc := 284) rw_228_284 (ls2 := fun v => [.ref 77, .int c, .int t, .int v, .int v8, .int v11]) rfl rfl (fun _ => rfl) (A := x3.toInt) (B := 1) rfl rfl (by omega) (fun v184 e185 => to_go (pc := 287) rw_228_287 ?_)
          have c_186 : M181.2.1 77 58 = (N.2.1 77 58) := (W_n W180 (fun z => absurd z.1 (by decide)) rfl)
          have t_187 : (M181.2.1 77 58).toInt = (N.2.1 77 58).toInt := congrArg Int32.toInt c_186
          have j_188 := (KQ_f (fun a i z => W_n W180 (by /-r117-/ omega) rfl) g4)
          exact ih M181 v184 (.int v8) (.int v11) hG182 F183 (by omega) (by omega) (by omega) j_188 (by omega)
        · refine to_an (pc := 268) rw_228_268 rfl (s_gR (pc := 269) rw_228_269 hG rfl (v := 117) rfl (to_i (pc := 272) rw_228_272 rfl (s_bal (pc := 274) rw_228_274 hG rfl (n := 40) rfl (A := v11.toInt) rfl (by omega) (by omega) (lo := 0) (hi := 1) rfl rfl (fun v189 w_190 _ _ => b_ieq (pc := 275) rw_228_275 (A := v189.toInt) rfl (fun h191 => ?_) (fun h191 => ?_)))))
          · refine to_c (pc := 282) rw_228_282 (x := (0 : Int32)) rfl rfl (s_zas (pc := 283) rw_228_283 hG rfl (n := 40) rfl (A := x3.toInt) rfl (by omega) (by omega) (B := 0) rfl (by omega) (fun M193 W192 => ?_))
            have hG194 := g_w hG W192 (A := 0) rfl (lo := 0) (hi := 1) rfl rfl (by omega) (by decide)
            have F195 := FR.w F0 W192 (show 117 = 117 by decide)
            refine s_inc (pc := 284) rw_228_284 (ls2 := fun v => [.ref 77, .int c, .int t, .int v, .int v8, .int v11]) rfl rfl (fun _ => rfl) (A := x3.toInt) (B := 1) rfl rfl (by omega) (fun v196 e197 => to_go (pc := 287) rw_228_287 ?_)
            have c_198 : M193.2.1 77 58 = (N.2.1 77 58) := (W_n W192 (fun z => absurd z.1 (by decide)) rfl)
            have t_199 : (M193.2.1 77 58).toInt = (N.2.1 77 58).toInt := congrArg Int32.toInt c_198
            have j_200 := (KQ_f (fun a i z => W_n W192 (by /-r117-/ omega) rfl) g4)
            exact ih M193 v196 (.int v8) (.int v11) hG194 F195 (by omega) (by omega) (by omega) j_200 (by omega)
          · refine to_c (pc := 278) rw_228_278 (x := (1 : Int32)) rfl rfl (to_go (pc := 279) rw_228_279 (s_zas (pc := 283) rw_228_283 hG rfl (n := 40) rfl (A := x3.toInt) rfl (by omega) (by omega) (B := 1) rfl (by omega) (fun M202 W201 => ?_)))
            have hG203 := g_w hG W201 (A := 1) rfl (lo := 0) (hi := 1) rfl rfl (by omega) (by decide)
            have F204 := FR.w F0 W201 (show 117 = 117 by decide)
            refine s_inc (pc := 284) rw_228_284 (ls2 := fun v => [.ref 77, .int c, .int t, .int v, .int v8, .int v11]) rfl rfl (fun _ => rfl) (A := x3.toInt) (B := 1) rfl rfl (by omega) (fun v205 e206 => to_go (pc := 287) rw_228_287 ?_)
            have c_207 : M202.2.1 77 58 = (N.2.1 77 58) := (W_n W201 (fun z => absurd z.1 (by decide)) rfl)
            have t_208 : (M202.2.1 77 58).toInt = (N.2.1 77 58).toInt := congrArg Int32.toInt c_207
            have j_209 := (KQ_f (fun a i z => W_n W201 (by /-r117-/ omega) rfl) g4)
            exact ih M202 v205 (.int v8) (.int v11) hG203 F204 (by omega) (by omega) (by omega) j_209 (by omega)
set_option maxRecDepth 4000 in
set_option maxHeartbeats 0 in
theorem C_228 {X : mm_X} {d : Nat} {M : mm_M} {Q : Option Value → mm_M → Prop} {c : Int32} {t : Int32} (hX : g_X X) (hd : 1 ≤ d) (hG : g_G M) (q1 : 0 ≤ c.toInt) (q2 : c.toInt ≤ 29) (q3 : 0 ≤ t.toInt) (q4 : t.toInt ≤ 1) (q5 : 1 ≤ (M.2.1 77 58).toInt) (q6 : KQ M) (h : ∀ (r : Int32) (M1 : mm_M), g_G M1 → FR md_an M M1 → (0 ≤ r.toInt) → (r.toInt ≤ 1) → Q (some (.int r)) M1) : mm_T X d 227 0 [.ref 77, .int c, .int t, .null, .null, .null] [] M Q := by
  have F0 : FR md_an M M := FR.rf
  have b_210 := g_b hG (a := 77) (i := 58) (lo := 0) (hi := 40) rfl rfl
  refine to_c (pc := 0) rw_228_0 (x := (0 : Int32)) rfl rfl (to_isn (pc := 1) rw_228_1 (ls2 := [.ref 77, .int c, .int t, .int (0 : Int32), .null, .null]) rfl rfl ?_)
  have k_211 : (0 : Int32).toInt = 0 := rfl
  exact (T_228_0 (c := c) (t := t) hX hd q1 q2 q3 q4 q5 q6 h ((40 - (0 : Int32).toInt).toNat + 1)) M (0 : Int32) (.null) (.null) hG F0 (by omega) (by omega) (by omega) q6 (by omega)
set_option maxRecDepth 4000 in
set_option maxHeartbeats 0 in
theorem T_229_0 {X : mm_X} {d : Nat} {M : mm_M} {Q : Option Value → mm_M → Prop} {n : Int32} {w : Int32} (hX : g_X X) (hd : 3 ≤ d) (q1 : NJ M) (q2 : KQ M) (h : ∀ (r : Int32) (M1 : mm_M), g_G M1 → FR md_as M M1 → Q (some (.int r)) M1) : ∀ nn9 : Nat, (∀ (N : mm_M) (u1 : Value) (x3 : Int32) (x4 : Int32) (x5 : Int32), g_G N → FR md_as M N → (0 ≤ x5.toInt) → (x5.toInt ≤ 30) → (1 ≤ (N.2.1 77 58).toInt) → (KQ N) → 30 - x5.toInt < (nn9 : Int) → mm_T X d 228 44 [.ref 77, u1, .int w, .int x3, .int x4, .int x5] [] N Q) := by
  intro nn9
  induction nn9 with
  | zero =>
    intro N u1 x3 x4 x5 hG F0 g1 g2 g3 g4 hm
    have b_1 := g_b hG (a := 77) (i := 58) (lo := 0) (hi := 40) rfl rfl
    exfalso; omega
  | succ nn9 ih =>
    intro N u1 x3 x4 x5 hG F0 g1 g2 g3 g4 hm
    have b_2 := g_b hG (a := 77) (i := 58) (lo := 0) (hi := 40) rfl rfl
    refine to_i (pc := 44) rw_229_44 rfl (to_an (pc := 46) rw_229_46 rfl ?_)
    have b_3 := g_b hG (a := 77) (i := 28) (lo := 0) (hi := 30) rfl rfl
    refine tt_gI (pc := 47) rw_229_47 (g_o hG rfl) (v := (N.2.1 77 28)) rfl (b_cge (pc := 50) rw_229_50 (A := x5.toInt) (B := (N.2.1 77 28).toInt) rfl rfl (fun h4 => ?_) (fun h4 => ?_))
    · refine to_in (pc := 103) rw_229_103 rfl (b_ine (pc := 104) rw_229_104 (A := w.toInt) rfl (fun h5 => ?_) (fun h5 => ?_))
      · refine to_in (pc := 111) rw_229_111 rfl (to_c (pc := 112) rw_229_112 (x := (1 : Int32)) rfl rfl (b_cne (pc := 113) rw_229_113 (A := w.toInt) (B := 1) rfl rfl (fun h6 => ?_) (fun h6 => ?_)))
        · refine to_in (pc := 121) rw_229_121 rfl (to_c (pc := 122) rw_229_122 (x := (2 : Int32)) rfl rfl (b_cne (pc := 123) rw_229_123 (A := w.toInt) (B := 2) rfl rfl (fun h7 => ?_) (fun h7 => ?_)))
          · refine to_i (pc := 135) rw_229_135 rfl (to_in (pc := 137) rw_229_137 rfl (to_c (pc := 138) rw_229_138 (x := (-1 : Int32)) rfl rfl (s_any (pc := 139) rw_229_139 (fun _ _ => rfl) (fun v8 => s_any (pc := 140) rw_229_140 (fun _ _ => rfl) (fun v9 => to_r0 (pc := 141) rw_229_141 ?_)))))
            exact h v9 N hG F0 
          · refine to_in (pc := 126) rw_229_126 rfl (to_i (pc := 127) rw_229_127 rfl (to_c (pc := 129) rw_229_129 (x := (-1 : Int32)) rfl rfl (s_any (pc := 130) rw_229_130 (fun _ _ => rfl) (fun v11 => s_any (pc := 131) rw_229_131 (fun _ _ => rfl) (fun v12 => to_go (pc := 132) rw_229_132 (to_r0 (pc := 141) rw_229_141 ?_))))))
            exact h v12 N hG F0 
        · refine to_i (pc := 116) rw_229_116 rfl (to_go (pc := 118) rw_229_118 (to_r0 (pc := 141) rw_229_141 ?_))
          exact h x4 N hG F0 
      · refine to_in (pc := 107) rw_229_107 rfl (to_go (pc := 108) rw_229_108 (to_r0 (pc := 141) rw_229_141 ?_))
        exact h x3 N hG F0 
    · refine to_in (pc := 53) rw_229_53 rfl (to_an (pc := 54) rw_229_54 rfl (to_i (pc := 55) rw_229_55 rfl (to_c (pc := 57) rw_229_57 (x := (0 : Int32)) rfl rfl (s_v (pc := 58) rw_229_58 (dp0 hd (by decide)) (ls0 := [.ref 77, .int x5, .int (0 : Int32), .null, .null, .null]) rfl (Nat.le_of_ble_eq_true rfl) (Nat.le_of_ble_eq_true rfl) rfl (to_rc rfl rfl rfl (g_o hG rfl)) rfl ?_))))
      have k_14 : (0 : Int32).toInt = 0 := rfl
      refine C_228 hX (dp1 hd (by decide)) hG (by omega) (by omega) (by omega) (by omega) (by omega) g4 (c := x5) (t := (0 : Int32)) (fun r15 M20 hG17 F16 p_18 p_19 => ?_)
      have F21 := FR.c F0 F16 tg_348
      refine b_ieq (pc := 61) rw_229_61 (A := r15.toInt) rfl (fun h22 => ?_) (fun h22 => ?_)
      · refine to_c (pc := 71) rw_229_71 (x := (0 : Int32)) rfl rfl (s_any (pc := 72) rw_229_72 (fun _ _ => rfl) (fun v23 => to_isn (pc := 73) rw_229_73 (ls2 := [.ref 77, u1, .int w, .int v23, .int x4, .int x5]) rfl rfl (to_i (pc := 74) rw_229_74 rfl (to_an (pc := 76) rw_229_76 rfl (to_i (pc := 77) rw_229_77 rfl (to_c (pc := 79) rw_229_79 (x := (1 : Int32)) rfl rfl (s_v (pc := 80) rw_229_80 (dp0 hd (by decide)) (ls0 := [.ref 77, .int x5, .int (1 : Int32), .null, .null, .null]) rfl (Nat.le_of_ble_eq_true rfl) (Nat.le_of_ble_eq_true rfl) rfl (to_rc rfl rfl rfl (g_o hG17 rfl)) rfl ?_)))))))
        have k_24 : (1 : Int32).toInt = 1 := rfl
        have c_25 : M20.2.1 77 58 = (N.2.1 77 58) := (F_n F16 (show ¬ (77 = 117) by decide) rfl)
        have t_26 : (M20.2.1 77 58).toInt = (N.2.1 77 58).toInt := congrArg Int32.toInt c_25
        have j_27 := (KQ_f (tg_344 F16) g4)
        refine C_228 hX (dp1 hd (by decide)) hG17 (by omega) (by omega) (by omega) (by omega) (by omega) j_27 (c := x5) (t := (1 : Int32)) (fun r28 M33 hG30 F29 p_31 p_32 => ?_)
        have F34 := FR.c F21 F29 tg_348
        refine b_ieq (pc := 83) rw_229_83 (A := r28.toInt) rfl (fun h35 => ?_) (fun h35 => ?_)
        · refine to_c (pc := 93) rw_229_93 (x := (0 : Int32)) rfl rfl (s_any (pc := 94) rw_229_94 (fun _ _ => rfl) (fun v36 => to_is (pc := 95) rw_229_95 (ls2 := [.ref 77, u1, .int w, .int v23, .int v36, .int x5]) rfl rfl (s_inc (pc := 97) rw_229_97 (ls2 := fun v => [.ref 77, u1, .int w, .int v23, .int v36, .int v]) rfl rfl (fun _ => rfl) (A := x5.toInt) (B := 1) rfl rfl (by omega) (fun v37 e38 => to_go (pc := 100) rw_229_100 ?_))))
          have c_39 : M33.2.1 77 58 = (N.2.1 77 58) := (F_n F29 (show ¬ (77 = 117) by decide) c_25)
          have t_40 : (M33.2.1 77 58).toInt = (N.2.1 77 58).toInt := congrArg Int32.toInt c_39
          have j_41 := (KQ_f (tg_344 F29) j_27)
          exact ih M33 (u1) v23 v36 v37 hG30 F34 (by omega) (by omega) (by omega) j_41 (by omega)
        · refine to_c (pc := 86) rw_229_86 (x := (1 : Int32)) rfl rfl (to_i (pc := 87) rw_229_87 rfl (s_any (pc := 89) rw_229_89 (fun _ _ => rfl) (fun v42 => to_go (pc := 90) rw_229_90 (s_any (pc := 94) rw_229_94 (fun _ _ => rfl) (fun v43 => to_is (pc := 95) rw_229_95 (ls2 := [.ref 77, u1, .int w, .int v23, .int v43, .int x5]) rfl rfl (s_inc (pc := 97) rw_229_97 (ls2 := fun v => [.ref 77, u1, .int w, .int v23, .int v43, .int v]) rfl rfl (fun _ => rfl) (A := x5.toInt) (B := 1) rfl rfl (by omega) (fun v44 e45 => to_go (pc := 100) rw_229_100 ?_)))))))
          have c_46 : M33.2.1 77 58 = (N.2.1 77 58) := (F_n F29 (show ¬ (77 = 117) by decide) c_25)
          have t_47 : (M33.2.1 77 58).toInt = (N.2.1 77 58).toInt := congrArg Int32.toInt c_46
          have j_48 := (KQ_f (tg_344 F29) j_27)
          exact ih M33 (u1) v23 v43 v44 hG30 F34 (by omega) (by omega) (by omega) j_48 (by omega)
      · refine to_c (pc := 64) rw_229_64 (x := (1 : Int32)) rfl rfl (to_i (pc := 65) rw_229_65 rfl (s_any (pc := 67) rw_229_67 (fun _ _ => rfl) (fun v49 => to_go (pc := 68) rw_229_68 (s_any (pc := 72) rw_229_72 (fun _ _ => rfl) (fun v50 => to_isn (pc := 73) rw_229_73 (ls2 := [.ref 77, u1, .int w, .int v50, .int x4, .int x5]) rfl rfl (to_i (pc := 74) rw_229_74 rfl (to_an (pc := 76) rw_229_76 rfl (to_i (pc := 77) rw_229_77 rfl (to_c (pc := 79) rw_229_79 (x := (1 : Int32)) rfl rfl (s_v (pc := 80) rw_229_80 (dp0 hd (by decide)) (ls0 := [.ref 77, .int x5, .int (1 : Int32), .null, .null, .null]) rfl (Nat.le_of_ble_eq_true rfl) (Nat.le_of_ble_eq_true rfl) rfl (to_rc rfl rfl rfl (g_o hG17 rfl)) rfl ?_))))))))))
        have k_51 : (1 : Int32).toInt = 1 := rfl
        have c_52 : M20.2.1 77 58 = (N.2.1 77 58) := (F_n F16 (show ¬ (77 = 117) by decide) rfl)
        have t_53 : (M20.2.1 77 58).toInt = (N.2.1 77 58).toInt := congrArg Int32.toInt c_52
        have j_54 := (KQ_f (tg_344 F16) g4)
        refine C_228 hX (dp1 hd (by decide)) hG17 (by omega) (by omega) (by omega) (by omega) (by omega) j_54 (c := x5) (t := (1 : Int32)) (fun r55 M60 hG57 F56 p_58 p_59 => ?_)
        have F61 := FR.c F21 F56 tg_348
        refine b_ieq (pc := 83) rw_229_83 (A := r55.toInt) rfl (fun h62 => ?_) (fun h62 => ?_)
        · refine to_c (pc := 93) rw_229_93 (x := (0 : Int32)) rfl rfl (s_any (pc := 94) rw_229_94 (fun _ _ => rfl) (fun v63 => to_is (pc := 95) rw_229_95 (ls2 := [.ref 77, u1, .int w, .int v50, .int v63, .int x5]) rfl rfl (s_inc (pc := 97) rw_229_97 (ls2 := fun v => [.ref 77, u1, .int w, .int v50, .int v63, .int v]) rfl rfl (fun _ => rfl) (A := x5.toInt) (B := 1) rfl rfl (by omega) (fun v64 e65 => to_go (pc := 100) rw_229_100 ?_))))
          have c_66 : M60.2.1 77 58 = (N.2.1 77 58) := (F_n F56 (show ¬ (77 = 117) by decide) c_52)
          have t_67 : (M60.2.1 77 58).toInt = (N.2.1 77 58).toInt := congrArg Int32.toInt c_66
          have j_68 := (KQ_f (tg_344 F56) j_54)
          exact ih M60 (u1) v50 v63 v64 hG57 F61 (by omega) (by omega) (by omega) j_68 (by omega)
        · refine to_c (pc := 86) rw_229_86 (x := (1 : Int32)) rfl rfl (to_i (pc := 87) rw_229_87 rfl (s_any (pc := 89) rw_229_89 (fun _ _ => rfl) (fun v69 => to_go (pc := 90) rw_229_90 (s_any (pc := 94) rw_229_94 (fun _ _ => rfl) (fun v70 => to_is (pc := 95) rw_229_95 (ls2 := [.ref 77, u1, .int w, .int v50, .int v70, .int x5]) rfl rfl (s_inc (pc := 97) rw_229_97 (ls2 := fun v => [.ref 77, u1, .int w, .int v50, .int v70, .int v]) rfl rfl (fun _ => rfl) (A := x5.toInt) (B := 1) rfl rfl (by omega) (fun v71 e72 => to_go (pc := 100) rw_229_100 ?_)))))))
          have c_73 : M60.2.1 77 58 = (N.2.1 77 58) := (F_n F56 (show ¬ (77 = 117) by decide) c_52)
          have t_74 : (M60.2.1 77 58).toInt = (N.2.1 77 58).toInt := congrArg Int32.toInt c_73
          have j_75 := (KQ_f (tg_344 F56) j_54)
          exact ih M60 (u1) v50 v70 v71 hG57 F61 (by omega) (by omega) (by omega) j_75 (by omega)
set_option maxRecDepth 4000 in
set_option maxHeartbeats 0 in
theorem C_229 {X : mm_X} {d : Nat} {M : mm_M} {Q : Option Value → mm_M → Prop} {n : Int32} {w : Int32} (hX : g_X X) (hd : 3 ≤ d) (hG : g_G M) (q1 : NJ M) (q2 : KQ M) (h : ∀ (r : Int32) (M1 : mm_M), g_G M1 → FR md_as M M1 → Q (some (.int r)) M1) : mm_T X d 228 0 [.ref 77, .int n, .int w, .null, .null, .null] [] M Q := by
  have F0 : FR md_as M M := FR.rf
  have b_76 := g_b hG (a := 77) (i := 57) (lo := 0) (hi := 1) rfl rfl
  have b_77 := g_b hG (a := 77) (i := 58) (lo := 0) (hi := 40) rfl rfl
  have s_78 := KQ_h q2
  refine to_an (pc := 0) rw_229_0 rfl (to_c (pc := 1) rw_229_1 (x := (0 : Int32)) rfl rfl (s_pI (pc := 2) rw_229_2 hG rfl (fun M80 W79 => ?_)))
  have hG81 := g_wf hG W79 rfl rfl (by decide)
  have F82 := FR.w F0 W79 (show 77 = 77 ∧ 2 = 2 ∨ 94 ≤ 77 ∧ 77 ≤ 98 ∨ 77 = 117 by decide)
  refine to_an (pc := 5) rw_229_5 rfl ?_
  have c_83 : M80.2.1 77 57 = (M.2.1 77 57) := (W_n W79 (by decide) rfl)
  refine tt_gZ (pc := 6) rw_229_6 (g_o hG81 rfl) (v := (M.2.1 77 57)) c_83 (b_ieq (pc := 9) rw_229_9 (A := (M.2.1 77 57).toInt) rfl (fun h84 => ?_) (fun h84 => ?_))
  · refine to_c (pc := 29) rw_229_29 (x := (-1 : Int32)) rfl rfl (to_r0 (pc := 30) rw_229_30 ?_)
    have k_85 : (-1 : Int32).toInt = -1 := rfl
    exact h (-1 : Int32) M80 hG81 F82 
  · refine to_an (pc := 12) rw_229_12 rfl (to_in (pc := 13) rw_229_13 rfl (s_v (pc := 14) rw_229_14 (dp0 hd (by decide)) (ls0 := [.ref 77, .int n]) rfl (Nat.le_of_ble_eq_true rfl) (Nat.le_of_ble_eq_true rfl) rfl (to_rc rfl rfl rfl (g_o hG81 rfl)) rfl (to_in (pc := 0) rw_186_0 rfl (b_ilt (pc := 1) rw_186_1 (A := n.toInt) rfl (fun h86 => ?_) (fun h86 => ?_)))))
    · refine to_c (pc := 16) rw_186_16 (x := (0 : Int32)) rfl rfl (s_r1 (pc := 17) rw_186_17 (A := 0) rfl (by decide) (b_ieq_t (pc := 17) rw_229_17 (A := 0) rfl (by decide) (to_c (pc := 29) rw_229_29 (x := (-1 : Int32)) rfl rfl (to_r0 (pc := 30) rw_229_30 ?_))))
      have k_87 : (-1 : Int32).toInt = -1 := rfl
      exact h (-1 : Int32) M80 hG81 F82 
    · refine to_in (pc := 4) rw_186_4 rfl (to_an (pc := 5) rw_186_5 rfl ?_)
      have c_88 : M80.2.1 77 29 = (M.2.1 77 29) := (W_n W79 (by decide) rfl)
      have b_89 := g_b hG (a := 77) (i := 29) (lo := 0) (hi := 150) rfl rfl
      refine tt_gI (pc := 6) rw_186_6 (g_o hG81 rfl) (v := (M.2.1 77 29)) c_88 (b_cgt (pc := 9) rw_186_9 (A := n.toInt) (B := (M.2.1 77 29).toInt) rfl rfl (fun h90 => ?_) (fun h90 => ?_))
      · refine to_c (pc := 16) rw_186_16 (x := (0 : Int32)) rfl rfl (s_r1 (pc := 17) rw_186_17 (A := 0) rfl (by decide) (b_ieq_t (pc := 17) rw_229_17 (A := 0) rfl (by decide) (to_c (pc := 29) rw_229_29 (x := (-1 : Int32)) rfl rfl (to_r0 (pc := 30) rw_229_30 ?_))))
        have k_91 : (-1 : Int32).toInt = -1 := rfl
        exact h (-1 : Int32) M80 hG81 F82 
      · refine to_c (pc := 12) rw_186_12 (x := (1 : Int32)) rfl rfl (to_go (pc := 13) rw_186_13 (s_r1 (pc := 17) rw_186_17 (A := 1) rfl (by decide) (b_ieq_f (pc := 17) rw_229_17 (A := 1) rfl (by decide) (to_in (pc := 20) rw_229_20 rfl (to_c (pc := 21) rw_229_21 (x := (0 : Int32)) rfl rfl (to_c (pc := 22) rw_229_22 (x := (3 : Int32)) rfl rfl (s_s (pc := 23) rw_229_23 (dp0 hd (by decide)) (ls0 := [.int w, .int (0 : Int32), .int (3 : Int32)]) rfl (Nat.le_of_ble_eq_true rfl) (Nat.le_of_ble_eq_true rfl) rfl (to_rcs rfl rfl) rfl (to_in (pc := 0) rw_149_0 rfl (to_in (pc := 1) rw_149_1 rfl (b_clt (pc := 2) rw_149_2 (A := w.toInt) (B := 0) rfl rfl (fun h92 => ?_) (fun h92 => ?_)))))))))))
        · refine to_c (pc := 14) rw_149_14 (x := (0 : Int32)) rfl rfl (s_r1 (pc := 15) rw_149_15 (A := 0) rfl (by decide) (b_ine_f (pc := 26) rw_229_26 (A := 0) rfl (by decide) (to_c (pc := 29) rw_229_29 (x := (-1 : Int32)) rfl rfl (to_r0 (pc := 30) rw_229_30 ?_))))
          have k_93 : (-1 : Int32).toInt = -1 := rfl
          exact h (-1 : Int32) M80 hG81 F82 
        · refine to_in (pc := 5) rw_149_5 rfl (to_in (pc := 6) rw_149_6 rfl (b_cgt (pc := 7) rw_149_7 (A := w.toInt) (B := 3) rfl rfl (fun h94 => ?_) (fun h94 => ?_)))
          · refine to_c (pc := 14) rw_149_14 (x := (0 : Int32)) rfl rfl (s_r1 (pc := 15) rw_149_15 (A := 0) rfl (by decide) (b_ine_f (pc := 26) rw_229_26 (A := 0) rfl (by decide) (to_c (pc := 29) rw_229_29 (x := (-1 : Int32)) rfl rfl (to_r0 (pc := 30) rw_229_30 ?_))))
            have k_95 : (-1 : Int32).toInt = -1 := rfl
            exact h (-1 : Int32) M80 hG81 F82 
          · refine to_c (pc := 10) rw_149_10 (x := (1 : Int32)) rfl rfl (to_go (pc := 11) rw_149_11 (s_r1 (pc := 15) rw_149_15 (A := 1) rfl (by decide) (b_ine_t (pc := 26) rw_229_26 (A := 1) rfl (by decide) (to_an (pc := 31) rw_229_31 rfl (to_in (pc := 32) rw_229_32 rfl (s_v (pc := 33) rw_229_33 (dp0 hd (by decide)) (ls0 := [.ref 77, .int n, .null, .null]) rfl (Nat.le_of_ble_eq_true rfl) (Nat.le_of_ble_eq_true rfl) rfl (to_rc rfl rfl rfl (g_o hG81 rfl)) rfl ?_))))))
            have t_96 : (M80.2.1 77 29).toInt = (M.2.1 77 29).toInt := congrArg Int32.toInt c_88
            have j_97 := (NJ_f (fun a i z => W_n W79 (by /-r77,2-/ omega) rfl) q1)
            refine C_189 hX (dp1 hd (by decide)) hG81 (by omega) (by omega) (by omega) j_97 (n := n) (fun M100 hG99 F98 => ?_)
            have F101 := FR.c F82 F98 tg_349
            refine to_c (pc := 36) rw_229_36 (x := (0 : Int32)) rfl rfl (to_isn (pc := 37) rw_229_37 (ls2 := [.ref 77, .int n, .int w, .int (0 : Int32), .null, .null]) rfl rfl (to_c (pc := 38) rw_229_38 (x := (0 : Int32)) rfl rfl (to_is (pc := 39) rw_229_39 (ls2 := [.ref 77, .int n, .int w, .int (0 : Int32), .int (0 : Int32), .null]) rfl rfl (to_c (pc := 41) rw_229_41 (x := (0 : Int32)) rfl rfl (to_is (pc := 42) rw_229_42 (ls2 := [.ref 77, .int n, .int w, .int (0 : Int32), .int (0 : Int32), .int (0 : Int32)]) rfl rfl ?_)))))
            have k_102 : (0 : Int32).toInt = 0 := rfl
            have c_103 : M100.2.1 77 58 = (M.2.1 77 58) := (F_n F98 (show ¬ (94 ≤ 77 ∧ 77 ≤ 98) by decide) (W_n W79 (by decide) rfl))
            have t_104 : (M100.2.1 77 58).toInt = (M.2.1 77 58).toInt := congrArg Int32.toInt c_103
            have j_105 := (KQ_f (tg_345 F98) (KQ_f (fun a i z => W_n W79 (by /-r77,2-/ omega) rfl) q2))
            exact (T_229_0 (n := n) (w := w) hX hd q1 q2 h ((30 - (0 : Int32).toInt).toNat + 1)) M100 (.int n) (0 : Int32) (0 : Int32) (0 : Int32) hG99 F101 (by omega) (by omega) (by omega) j_105 (by omega)
set_option maxRecDepth 4000 in
set_option maxHeartbeats 0 in
theorem T_230_0 {X : mm_X} {d : Nat} {M : mm_M} {Q : Option Value → mm_M → Prop} {n : Int32} {k : Int32} (hX : g_X X) (hd : 0 ≤ d) (q1 : k.toInt ≤ 24) (h : ∀ (r : Int64) (M1 : mm_M), g_G M1 → FR md_0 M M1 → Q (some (.long r)) M1) : ∀ nn9 : Nat, (∀ (N : mm_M) (y2 : Int64) (x4 : Int32), g_G N → FR md_0 M N → (0 ≤ x4.toInt) → (x4.toInt ≤ 24) → 24 - x4.toInt < (nn9 : Int) → mm_T X d 229 5 [.int n, .int k, .long y2, .null, .int x4] [] N Q) := by
  intro nn9
  induction nn9 with
  | zero =>
    intro N y2 x4 hG F0 g1 g2 hm
    exfalso; omega
  | succ nn9 ih =>
    intro N y2 x4 hG F0 g1 g2 hm
    refine to_i (pc := 5) rw_230_5 rfl (to_in (pc := 7) rw_230_7 rfl (b_cge (pc := 8) rw_230_8 (A := x4.toInt) (B := k.toInt) rfl rfl (fun h1 => ?_) (fun h1 => ?_)))
    · refine to_in (pc := 31) rw_230_31 rfl (to_in (pc := 32) rw_230_32 rfl (b_cge (pc := 33) rw_230_33 (A := n.toInt) (B := k.toInt) rfl rfl (fun h2 => ?_) (fun h2 => ?_)))
      · refine to_ln (pc := 40) rw_230_40 rfl rfl rfl (to_rl (pc := 41) rw_230_41 ?_)
        exact h y2 N hG F0 
      · refine s_cl (pc := 36) rw_230_36 rfl (fun l3 => to_go (pc := 37) rw_230_37 (to_rl (pc := 41) rw_230_41 ?_))
        exact h l3 N hG F0 
    · refine to_ln (pc := 11) rw_230_11 rfl rfl rfl (to_in (pc := 12) rw_230_12 rfl (to_i (pc := 13) rw_230_13 rfl (s_any (pc := 15) rw_230_15 (fun _ _ => rfl) (fun v4 => s_i2l (pc := 16) rw_230_16 (fun l5 e6 => s_anyL (pc := 17) rw_230_17 (fun _ _ => rfl) (fun l7 => to_i (pc := 18) rw_230_18 rfl (to_c (pc := 20) rw_230_20 (x := (1 : Int32)) rfl rfl (s_add (pc := 21) rw_230_21 (A := x4.toInt) (B := 1) rfl rfl (by omega) (fun v8 e9 => s_i2l (pc := 22) rw_230_22 (fun l10 e11 => s_ldiv (pc := 23) rw_230_23 e11 (A := v8.toInt) rfl (by omega) (fun l12 => to_lsn (pc := 24) rw_230_24 (ls2 := [.int n, .int k, .long l12, .null, .int x4]) rfl rfl ?_)))))))))))
      refine s_inc (pc := 25) rw_230_25 (ls2 := fun v => [.int n, .int k, .long l12, .null, .int v]) rfl rfl (fun _ => rfl) (A := x4.toInt) (B := 1) rfl rfl (by omega) (fun v13 e14 => to_go (pc := 28) rw_230_28 ?_)
      exact ih N l12 v13 hG F0 (by omega) (by omega) (by omega)
set_option maxRecDepth 4000 in
set_option maxHeartbeats 0 in
theorem C_230 {X : mm_X} {d : Nat} {M : mm_M} {Q : Option Value → mm_M → Prop} {n : Int32} {k : Int32} (hX : g_X X) (hd : 0 ≤ d) (hG : g_G M) (q1 : k.toInt ≤ 24) (h : ∀ (r : Int64) (M1 : mm_M), g_G M1 → FR md_0 M M1 → Q (some (.long r)) M1) : mm_T X d 229 0 [.int n, .int k, .null, .null, .null] [] M Q := by
  have F0 : FR md_0 M M := FR.rf
  refine s_cl (pc := 0) rw_230_0 rfl (fun l15 => to_lsn (pc := 1) rw_230_1 (ls2 := [.int n, .int k, .long l15, .null, .null]) rfl rfl (to_c (pc := 2) rw_230_2 (x := (0 : Int32)) rfl rfl (to_is (pc := 3) rw_230_3 (ls2 := [.int n, .int k, .long l15, .null, .int (0 : Int32)]) rfl rfl ?_)))
  have k_16 : (0 : Int32).toInt = 0 := rfl
  exact (T_230_0 (n := n) (k := k) hX hd q1 h ((24 - (0 : Int32).toInt).toNat + 1)) M l15 (0 : Int32) hG F0 (by omega) (by omega) (by omega)
set_option maxRecDepth 4000 in
set_option maxHeartbeats 0 in
theorem C_232 {X : mm_X} {d : Nat} {M : mm_M} {Q : Option Value → mm_M → Prop} {c : Int32} {f : Int32} (hX : g_X X) (hd : 1 ≤ d) (hG : g_G M) (q1 : 0 ≤ c.toInt) (q2 : c.toInt ≤ 29) (q3 : 0 ≤ f.toInt) (q4 : f.toInt ≤ 7) (h : ∀ (r : Int64) (M1 : mm_M), g_G M1 → FR md_0 M M1 → Q (some (.long r)) M1) : mm_T X d 231 0 [.ref 77, .int c, .int f] [] M Q := by
  have F0 : FR md_0 M M := FR.rf
  refine to_an (pc := 0) rw_232_0 rfl (s_gR (pc := 1) rw_232_1 hG rfl (v := 96) rfl (to_in (pc := 4) rw_232_4 rfl (s_lal (pc := 5) rw_232_5 hG rfl (n := 30) rfl (A := c.toInt) rfl (by omega) (by omega) (fun l1 => to_an (pc := 6) rw_232_6 rfl (s_gR (pc := 7) rw_232_7 hG rfl (v := 82) rfl (to_in (pc := 10) rw_232_10 rfl (s_ial (pc := 11) rw_232_11 hG rfl (n := 16) rfl rfl (A := f.toInt) rfl (by omega) (by omega) (lo := 0) (hi := 59) rfl rfl (fun v2 w_3 _ _ => to_an (pc := 12) rw_232_12 rfl (s_gR (pc := 13) rw_232_13 hG rfl (v := 83) rfl (to_in (pc := 16) rw_232_16 rfl (s_ial (pc := 17) rw_232_17 hG rfl (n := 16) rfl rfl (A := f.toInt) rfl (by omega) (by omega) (lo := 0) (hi := 63) rfl rfl (fun v4 w_5 _ _ => ?_))))))))))))
  refine s_s (pc := 18) rw_232_18 (dp0 hd (by decide)) (ls0 := [.int v2, .int v4, .null, .null, .null]) rfl (Nat.le_of_ble_eq_true rfl) (Nat.le_of_ble_eq_true rfl) rfl (to_rcs rfl rfl) rfl (C_168 hX (dp1 hd (by decide)) hG (by omega) (by omega) (by omega) (a := v2) (b := v4) (fun r6 M9 hG8 F7 => ?_))
  have F10 := FR.c F0 F7 tg_29
  refine s_anyL (pc := 21) rw_232_21 (fun _ _ => rfl) (fun l11 => to_rl (pc := 22) rw_232_22 ?_)
  exact h l11 M9 hG8 F10 
set_option maxRecDepth 4000 in
set_option maxHeartbeats 0 in
theorem T_233_0 {X : mm_X} {d : Nat} {M : mm_M} {Q : Option Value → mm_M → Prop} {n : Int32} {w : Int32} {k : Int32} (hX : g_X X) (hd : 3 ≤ d) (q1 : NJ M) (h : ∀ (r : Int64) (M1 : mm_M), g_G M1 → FR md_k2 M M1 → Q (some (.long r)) M1) : ∀ nn9 : Nat, (∀ (N : mm_M) (u1 : Value) (u3 : Value) (x4 : Int32) (y5 : Int64) (x7 : Int32), g_G N → FR md_k2 M N → (0 ≤ x7.toInt) → (x7.toInt ≤ 30) → (0 ≤ x4.toInt) → (x4.toInt ≤ 7) → 30 - x7.toInt < (nn9 : Int) → mm_T X d 232 75 [.ref 77, u1, .int w, u3, .int x4, .long y5, .null, .int x7] [] N Q) := by
  intro nn9
  induction nn9 with
  | zero =>
    intro N u1 u3 x4 y5 x7 hG F0 g1 g2 g3 g4 hm
    exfalso; omega
  | succ nn9 ih =>
    intro N u1 u3 x4 y5 x7 hG F0 g1 g2 g3 g4 hm
    refine to_i (pc := 75) rw_233_75 rfl (to_an (pc := 77) rw_233_77 rfl ?_)
    have b_1 := g_b hG (a := 77) (i := 28) (lo := 0) (hi := 30) rfl rfl
    refine tt_gI (pc := 78) rw_233_78 (g_o hG rfl) (v := (N.2.1 77 28)) rfl (b_cge (pc := 81) rw_233_81 (A := x7.toInt) (B := (N.2.1 77 28).toInt) rfl rfl (fun h2 => ?_) (fun h2 => ?_))
    · refine to_l (pc := 130) rw_233_130 rfl rfl rfl (to_rl (pc := 132) rw_233_132 ?_)
      exact h y5 N hG F0 
    · refine to_l (pc := 84) rw_233_84 rfl rfl rfl (to_an (pc := 86) rw_233_86 rfl (to_i (pc := 87) rw_233_87 rfl (to_in (pc := 89) rw_233_89 rfl (s_v (pc := 90) rw_233_90 (dp0 hd (by decide)) (ls0 := [.ref 77, .int x7, .int w]) rfl (Nat.le_of_ble_eq_true rfl) (Nat.le_of_ble_eq_true rfl) rfl (to_rc rfl rfl rfl (g_o hG rfl)) rfl (to_an (pc := 0) rw_231_0 rfl (s_gR (pc := 1) rw_231_1 hG rfl (v := 98) rfl (to_in (pc := 4) rw_231_4 rfl (s_ial (pc := 5) rw_231_5 hG rfl (n := 30) rfl rfl (A := x7.toInt) rfl (by omega) (by omega) (lo := -2147483648) (hi := 2147483647) rfl rfl (fun v3 w_4 _ _ => to_in (pc := 6) rw_231_6 rfl (s_any (pc := 7) rw_231_7 (fun _ _ => rfl) (fun v5 => to_c (pc := 8) rw_231_8 (x := (1 : Int32)) rfl rfl ?_)))))))))))
      refine s_and (pc := 9) rw_231_9 (B := 1) rfl (by omega) (fun v6 e7 _ _ => to_c (pc := 10) rw_231_10 (x := (1 : Int32)) rfl rfl (b_cne (pc := 11) rw_231_11 (A := v6.toInt) (B := 1) rfl rfl (fun h8 => ?_) (fun h8 => ?_)))
      · refine to_c (pc := 18) rw_231_18 (x := (0 : Int32)) rfl rfl (s_r1 (pc := 19) rw_231_19 (A := 0) rfl (by decide) (b_ieq_t (pc := 93) rw_233_93 (A := 0) rfl (by decide) (to_an (pc := 100) rw_233_100 rfl (to_i (pc := 101) rw_233_101 rfl (to_i (pc := 103) rw_233_103 rfl (s_v (pc := 105) rw_233_105 (dp0 hd (by decide)) (ls0 := [.ref 77, .int x7, .int x4]) rfl (Nat.le_of_ble_eq_true rfl) (Nat.le_of_ble_eq_true rfl) rfl (to_rc rfl rfl rfl (g_o hG rfl)) rfl (C_232 hX (dp1 hd (by decide)) hG (by omega) (by omega) (by omega) (by omega) (c := x7) (f := x4) (fun r9 M12 hG11 F10 => ?_))))))))
        have F13 := FR.c F0 F10 tg_264
        refine s_s (pc := 108) rw_233_108 (dp0 hd (by decide)) (ls0 := [.long r9, .null, .null, .null]) rfl (Nat.le_of_ble_eq_true rfl) (Nat.le_of_ble_eq_true rfl) rfl (to_rcs rfl rfl) rfl (C_151 hX (dp1 hd (by decide)) hG11 (x := r9) (fun r14 M19 hG16 F15 p_17 p_18 => ?_))
        have F20 := FR.c F13 F15 tg_264
        refine to_an (pc := 111) rw_233_111 rfl (s_gR (pc := 112) rw_233_112 hG16 rfl (v := 84) rfl (to_i (pc := 115) rw_233_115 rfl (s_ial (pc := 117) rw_233_117 hG16 rfl (n := 16) rfl rfl (A := x4.toInt) rfl (by omega) (by omega) (lo := 0) (hi := 24) rfl rfl (fun v21 w_22 _ _ => s_s (pc := 118) rw_233_118 (dp0 hd (by decide)) (ls0 := [.int r14, .int v21, .null, .null, .null]) rfl (Nat.le_of_ble_eq_true rfl) (Nat.le_of_ble_eq_true rfl) rfl (to_rcs rfl rfl) rfl (C_230 hX (dp1 hd (by decide)) hG16 (by omega) (n := r14) (k := v21) (fun r23 M26 hG25 F24 => ?_))))))
        have F27 := FR.c F20 F24 tg_264
        refine s_anyL (pc := 121) rw_233_121 (fun _ _ => rfl) (fun l28 => to_ls (pc := 122) rw_233_122 (ls2 := [.ref 77, u1, .int w, u3, .int x4, .long l28, .null, .int x7]) rfl rfl (s_inc (pc := 124) rw_233_124 (ls2 := fun v => [.ref 77, u1, .int w, u3, .int x4, .long l28, .null, .int v]) rfl rfl (fun _ => rfl) (A := x7.toInt) (B := 1) rfl rfl (by omega) (fun v29 e30 => to_go (pc := 127) rw_233_127 ?_)))
        exact ih M26 (u1) (u3) x4 l28 v29 hG25 F27 (by omega) (by omega) (by omega) (by omega) (by omega)
      · refine to_c (pc := 14) rw_231_14 (x := (1 : Int32)) rfl rfl (to_go (pc := 15) rw_231_15 (s_r1 (pc := 19) rw_231_19 (A := 1) rfl (by decide) (b_ieq_f (pc := 93) rw_233_93 (A := 1) rfl (by decide) (s_cl (pc := 96) rw_233_96 rfl (fun l31 => to_go (pc := 97) rw_233_97 (s_anyL (pc := 121) rw_233_121 (fun _ _ => rfl) (fun l32 => to_ls (pc := 122) rw_233_122 (ls2 := [.ref 77, u1, .int w, u3, .int x4, .long l32, .null, .int x7]) rfl rfl (s_inc (pc := 124) rw_233_124 (ls2 := fun v => [.ref 77, u1, .int w, u3, .int x4, .long l32, .null, .int v]) rfl rfl (fun _ => rfl) (A := x7.toInt) (B := 1) rfl rfl (by omega) (fun v33 e34 => to_go (pc := 127) rw_233_127 ?_)))))))))
        exact ih N (u1) (u3) x4 l32 v33 hG F0 (by omega) (by omega) (by omega) (by omega) (by omega)
set_option maxRecDepth 4000 in
set_option maxHeartbeats 0 in
theorem C_233 {X : mm_X} {d : Nat} {M : mm_M} {Q : Option Value → mm_M → Prop} {n : Int32} {w : Int32} {k : Int32} (hX : g_X X) (hd : 3 ≤ d) (hG : g_G M) (q1 : NJ M) (h : ∀ (r : Int64) (M1 : mm_M), g_G M1 → FR md_k2 M M1 → Q (some (.long r)) M1) : mm_T X d 232 0 [.ref 77, .int n, .int w, .int k, .null, .null, .null, .null] [] M Q := by
  have F0 : FR md_k2 M M := FR.rf
  refine to_an (pc := 0) rw_233_0 rfl (to_c (pc := 1) rw_233_1 (x := (0 : Int32)) rfl rfl (s_pI (pc := 2) rw_233_2 hG rfl (fun M36 W35 => ?_)))
  have hG37 := g_wf hG W35 rfl rfl (by decide)
  have F38 := FR.w F0 W35 (show 77 = 77 ∧ 2 = 2 ∨ 94 ≤ 77 ∧ 77 ≤ 98 by decide)
  refine to_an (pc := 5) rw_233_5 rfl (to_in (pc := 6) rw_233_6 rfl (s_v (pc := 7) rw_233_7 (dp0 hd (by decide)) (ls0 := [.ref 77, .int n]) rfl (Nat.le_of_ble_eq_true rfl) (Nat.le_of_ble_eq_true rfl) rfl (to_rc rfl rfl rfl (g_o hG37 rfl)) rfl (to_in (pc := 0) rw_186_0 rfl (b_ilt (pc := 1) rw_186_1 (A := n.toInt) rfl (fun h39 => ?_) (fun h39 => ?_)))))
  · refine to_c (pc := 16) rw_186_16 (x := (0 : Int32)) rfl rfl (s_r1 (pc := 17) rw_186_17 (A := 0) rfl (by decide) (b_ieq_t (pc := 10) rw_233_10 (A := 0) rfl (by decide) (s_cl (pc := 30) rw_233_30 rfl (fun l40 => to_rl (pc := 33) rw_233_33 ?_))))
    exact h l40 M36 hG37 F38 
  · refine to_in (pc := 4) rw_186_4 rfl (to_an (pc := 5) rw_186_5 rfl ?_)
    have c_41 : M36.2.1 77 29 = (M.2.1 77 29) := (W_n W35 (by decide) rfl)
    have b_42 := g_b hG (a := 77) (i := 29) (lo := 0) (hi := 150) rfl rfl
    refine tt_gI (pc := 6) rw_186_6 (g_o hG37 rfl) (v := (M.2.1 77 29)) c_41 (b_cgt (pc := 9) rw_186_9 (A := n.toInt) (B := (M.2.1 77 29).toInt) rfl rfl (fun h43 => ?_) (fun h43 => ?_))
    · refine to_c (pc := 16) rw_186_16 (x := (0 : Int32)) rfl rfl (s_r1 (pc := 17) rw_186_17 (A := 0) rfl (by decide) (b_ieq_t (pc := 10) rw_233_10 (A := 0) rfl (by decide) (s_cl (pc := 30) rw_233_30 rfl (fun l44 => to_rl (pc := 33) rw_233_33 ?_))))
      exact h l44 M36 hG37 F38 
    · refine to_c (pc := 12) rw_186_12 (x := (1 : Int32)) rfl rfl (to_go (pc := 13) rw_186_13 (s_r1 (pc := 17) rw_186_17 (A := 1) rfl (by decide) (b_ieq_f (pc := 10) rw_233_10 (A := 1) rfl (by decide) (to_an (pc := 13) rw_233_13 rfl (to_in (pc := 14) rw_233_14 rfl (s_v (pc := 15) rw_233_15 (dp0 hd (by decide)) (ls0 := [.ref 77, .int w]) rfl (Nat.le_of_ble_eq_true rfl) (Nat.le_of_ble_eq_true rfl) rfl (to_rc rfl rfl rfl (g_o hG37 rfl)) rfl (to_in (pc := 0) rw_180_0 rfl (b_ilt (pc := 1) rw_180_1 (A := w.toInt) rfl (fun h45 => ?_) (fun h45 => ?_)))))))))
      · refine to_c (pc := 16) rw_180_16 (x := (0 : Int32)) rfl rfl (s_r1 (pc := 17) rw_180_17 (A := 0) rfl (by decide) (b_ieq_t (pc := 18) rw_233_18 (A := 0) rfl (by decide) (s_cl (pc := 30) rw_233_30 rfl (fun l46 => to_rl (pc := 33) rw_233_33 ?_))))
        exact h l46 M36 hG37 F38 
      · refine to_in (pc := 4) rw_180_4 rfl (to_an (pc := 5) rw_180_5 rfl ?_)
        have c_47 : M36.2.1 77 13 = (M.2.1 77 13) := (W_n W35 (by decide) rfl)
        have b_48 := g_b hG (a := 77) (i := 13) (lo := 0) (hi := 12) rfl rfl
        refine tt_gI (pc := 6) rw_180_6 (g_o hG37 rfl) (v := (M.2.1 77 13)) c_47 (b_cge (pc := 9) rw_180_9 (A := w.toInt) (B := (M.2.1 77 13).toInt) rfl rfl (fun h49 => ?_) (fun h49 => ?_))
        · refine to_c (pc := 16) rw_180_16 (x := (0 : Int32)) rfl rfl (s_r1 (pc := 17) rw_180_17 (A := 0) rfl (by decide) (b_ieq_t (pc := 18) rw_233_18 (A := 0) rfl (by decide) (s_cl (pc := 30) rw_233_30 rfl (fun l50 => to_rl (pc := 33) rw_233_33 ?_))))
          exact h l50 M36 hG37 F38 
        · refine to_c (pc := 12) rw_180_12 (x := (1 : Int32)) rfl rfl (to_go (pc := 13) rw_180_13 (s_r1 (pc := 17) rw_180_17 (A := 1) rfl (by decide) (b_ieq_f (pc := 18) rw_233_18 (A := 1) rfl (by decide) (to_in (pc := 21) rw_233_21 rfl (to_c (pc := 22) rw_233_22 (x := (0 : Int32)) rfl rfl (to_c (pc := 23) rw_233_23 (x := (1 : Int32)) rfl rfl (s_s (pc := 24) rw_233_24 (dp0 hd (by decide)) (ls0 := [.int k, .int (0 : Int32), .int (1 : Int32)]) rfl (Nat.le_of_ble_eq_true rfl) (Nat.le_of_ble_eq_true rfl) rfl (to_rcs rfl rfl) rfl (to_in (pc := 0) rw_149_0 rfl (to_in (pc := 1) rw_149_1 rfl (b_clt (pc := 2) rw_149_2 (A := k.toInt) (B := 0) rfl rfl (fun h51 => ?_) (fun h51 => ?_)))))))))))
          · refine to_c (pc := 14) rw_149_14 (x := (0 : Int32)) rfl rfl (s_r1 (pc := 15) rw_149_15 (A := 0) rfl (by decide) (b_ine_f (pc := 27) rw_233_27 (A := 0) rfl (by decide) (s_cl (pc := 30) rw_233_30 rfl (fun l52 => to_rl (pc := 33) rw_233_33 ?_))))
            exact h l52 M36 hG37 F38 
          · refine to_in (pc := 5) rw_149_5 rfl (to_in (pc := 6) rw_149_6 rfl (b_cgt (pc := 7) rw_149_7 (A := k.toInt) (B := 1) rfl rfl (fun h53 => ?_) (fun h53 => ?_)))
            · refine to_c (pc := 14) rw_149_14 (x := (0 : Int32)) rfl rfl (s_r1 (pc := 15) rw_149_15 (A := 0) rfl (by decide) (b_ine_f (pc := 27) rw_233_27 (A := 0) rfl (by decide) (s_cl (pc := 30) rw_233_30 rfl (fun l54 => to_rl (pc := 33) rw_233_33 ?_))))
              exact h l54 M36 hG37 F38 
            · refine to_c (pc := 10) rw_149_10 (x := (1 : Int32)) rfl rfl (to_go (pc := 11) rw_149_11 (s_r1 (pc := 15) rw_149_15 (A := 1) rfl (by decide) (b_ine_t (pc := 27) rw_233_27 (A := 1) rfl (by decide) (to_an (pc := 34) rw_233_34 rfl (to_in (pc := 35) rw_233_35 rfl (s_v (pc := 36) rw_233_36 (dp0 hd (by decide)) (ls0 := [.ref 77, .int n, .null, .null]) rfl (Nat.le_of_ble_eq_true rfl) (Nat.le_of_ble_eq_true rfl) rfl (to_rc rfl rfl rfl (g_o hG37 rfl)) rfl ?_))))))
              have t_55 : (M36.2.1 77 29).toInt = (M.2.1 77 29).toInt := congrArg Int32.toInt c_41
              have j_56 := (NJ_f (fun a i z => W_n W35 (by /-r77,2-/ omega) rfl) q1)
              refine C_189 hX (dp1 hd (by decide)) hG37 (by omega) (by omega) (by omega) j_56 (n := n) (fun M59 hG58 F57 => ?_)
              have F60 := FR.c F38 F57 tg_263
              refine to_an (pc := 39) rw_233_39 rfl (s_gR (pc := 40) rw_233_40 hG58 rfl (v := 86) rfl (to_in (pc := 43) rw_233_43 rfl (s_ial (pc := 44) rw_233_44 hG58 rfl (n := 24) rfl rfl (A := w.toInt) rfl (by omega) (by omega) (lo := 0) (hi := 7) rfl rfl (fun v61 w_62 _ _ => to_is (pc := 45) rw_233_45 (ls2 := [.ref 77, .int n, .int w, .int k, .int v61, .null, .null, .null]) rfl rfl (to_in (pc := 47) rw_233_47 rfl (to_c (pc := 48) rw_233_48 (x := (1 : Int32)) rfl rfl (b_cne (pc := 49) rw_233_49 (A := k.toInt) (B := 1) rfl rfl (fun h63 => ?_) (fun h63 => ?_))))))))
              · refine s_cl (pc := 69) rw_233_69 rfl (fun l64 => to_ls (pc := 70) rw_233_70 (ls2 := [.ref 77, .int n, .int w, .int k, .int v61, .long l64, .null, .null]) rfl rfl (to_c (pc := 72) rw_233_72 (x := (0 : Int32)) rfl rfl (to_is (pc := 73) rw_233_73 (ls2 := [.ref 77, .int n, .int w, .int k, .int v61, .long l64, .null, .int (0 : Int32)]) rfl rfl ?_)))
                have k_65 : (0 : Int32).toInt = 0 := rfl
                exact (T_233_0 (n := n) (w := w) (k := k) hX hd q1 h ((30 - (0 : Int32).toInt).toNat + 1)) M59 (.int n) (.int k) v61 l64 (0 : Int32) hG58 F60 (by omega) (by omega) (by omega) (by omega) (by omega)
              · refine to_an (pc := 52) rw_233_52 rfl (to_i (pc := 53) rw_233_53 rfl (s_v (pc := 55) rw_233_55 (dp0 hd (by decide)) (ls0 := [.ref 77, .int v61]) rfl (Nat.le_of_ble_eq_true rfl) (Nat.le_of_ble_eq_true rfl) rfl (to_rc rfl rfl rfl (g_o hG58 rfl)) rfl (to_an (pc := 0) rw_197_0 rfl (s_gR (pc := 1) rw_197_1 hG58 rfl (v := 83) rfl (to_in (pc := 4) rw_197_4 rfl (s_ial (pc := 5) rw_197_5 hG58 rfl (n := 16) rfl rfl (A := v61.toInt) rfl (by omega) (by omega) (lo := 0) (hi := 63) rfl rfl (fun v66 w_67 _ _ => to_an (pc := 6) rw_197_6 rfl (s_gR (pc := 7) rw_197_7 hG58 rfl (v := 82) rfl (to_in (pc := 10) rw_197_10 rfl (s_ial (pc := 11) rw_197_11 hG58 rfl (n := 16) rfl rfl (A := v61.toInt) rfl (by omega) (by omega) (lo := 0) (hi := 59) rfl rfl (fun v68 w_69 _ _ => s_sub (pc := 12) rw_197_12 (A := v66.toInt) (B := v68.toInt) rfl rfl (by omega) (fun v70 e71 => ?_))))))))))))
                refine to_c (pc := 13) rw_197_13 (x := (1 : Int32)) rfl rfl (s_add (pc := 14) rw_197_14 (A := v70.toInt) (B := 1) rfl rfl (by omega) (fun v72 e73 => to_r0 (pc := 15) rw_197_15 (to_an (pc := 58) rw_233_58 rfl (s_gR (pc := 59) rw_233_59 hG58 rfl (v := 84) rfl (to_i (pc := 62) rw_233_62 rfl (s_ial (pc := 64) rw_233_64 hG58 rfl (n := 16) rfl rfl (A := v61.toInt) rfl (by omega) (by omega) (lo := 0) (hi := 24) rfl rfl (fun v74 w_75 _ _ => s_s (pc := 65) rw_233_65 (dp0 hd (by decide)) (ls0 := [.int v72, .int v74, .null, .null, .null]) rfl (Nat.le_of_ble_eq_true rfl) (Nat.le_of_ble_eq_true rfl) rfl (to_rcs rfl rfl) rfl (C_230 hX (dp1 hd (by decide)) hG58 (by omega) (n := v72) (k := v74) (fun r76 M79 hG78 F77 => ?_)))))))))
                have F80 := FR.c F60 F77 tg_264
                refine to_rl (pc := 68) rw_233_68 ?_
                exact h r76 M79 hG78 F80 
set_option maxRecDepth 4000 in
set_option maxHeartbeats 0 in
theorem T_234_0 {X : mm_X} {d : Nat} {M : mm_M} {Q : Option Value → mm_M → Prop} {w : Int32} {x : Int64} (hX : g_X X) (hd : 1 ≤ d) (h : ∀ (r : Int32) (M1 : mm_M), g_G M1 → FR md_0 M M1 → Q (some (.int r)) M1) : ∀ nn9 : Nat, (∀ (N : mm_M) (x4 : Int32) (x5 : Int32), g_G N → FR md_0 M N → (0 ≤ x5.toInt) → (x5.toInt ≤ 30) → 30 - x5.toInt < (nn9 : Int) → mm_T X d 233 6 [.ref 77, .int w, .long x, .null, .int x4, .int x5] [] N Q) := by
  intro nn9
  induction nn9 with
  | zero =>
    intro N x4 x5 hG F0 g1 g2 hm
    exfalso; omega
  | succ nn9 ih =>
    intro N x4 x5 hG F0 g1 g2 hm
    refine to_i (pc := 6) rw_234_6 rfl (to_an (pc := 8) rw_234_8 rfl ?_)
    have b_1 := g_b hG (a := 77) (i := 28) (lo := 0) (hi := 30) rfl rfl
    refine tt_gI (pc := 9) rw_234_9 (g_o hG rfl) (v := (N.2.1 77 28)) rfl (b_cge (pc := 12) rw_234_12 (A := x5.toInt) (B := (N.2.1 77 28).toInt) rfl rfl (fun h2 => ?_) (fun h2 => ?_))
    · refine to_i (pc := 59) rw_234_59 rfl (to_r0 (pc := 61) rw_234_61 ?_)
      exact h x4 N hG F0 
    · refine to_i (pc := 15) rw_234_15 rfl (to_an (pc := 17) rw_234_17 rfl (to_i (pc := 18) rw_234_18 rfl (to_in (pc := 20) rw_234_20 rfl (s_v (pc := 21) rw_234_21 (dp0 hd (by decide)) (ls0 := [.ref 77, .int x5, .int w]) rfl (Nat.le_of_ble_eq_true rfl) (Nat.le_of_ble_eq_true rfl) rfl (to_rc rfl rfl rfl (g_o hG rfl)) rfl (to_an (pc := 0) rw_231_0 rfl (s_gR (pc := 1) rw_231_1 hG rfl (v := 98) rfl (to_in (pc := 4) rw_231_4 rfl (s_ial (pc := 5) rw_231_5 hG rfl (n := 30) rfl rfl (A := x5.toInt) rfl (by omega) (by omega) (lo := -2147483648) (hi := 2147483647) rfl rfl (fun v3 w_4 _ _ => to_in (pc := 6) rw_231_6 rfl (s_any (pc := 7) rw_231_7 (fun _ _ => rfl) (fun v5 => to_c (pc := 8) rw_231_8 (x := (1 : Int32)) rfl rfl ?_)))))))))))
      refine s_and (pc := 9) rw_231_9 (B := 1) rfl (by omega) (fun v6 e7 _ _ => to_c (pc := 10) rw_231_10 (x := (1 : Int32)) rfl rfl (b_cne (pc := 11) rw_231_11 (A := v6.toInt) (B := 1) rfl rfl (fun h8 => ?_) (fun h8 => ?_)))
      · refine to_c (pc := 18) rw_231_18 (x := (0 : Int32)) rfl rfl (s_r1 (pc := 19) rw_231_19 (A := 0) rfl (by decide) (b_ine_f (pc := 24) rw_234_24 (A := 0) rfl (by decide) (to_ln (pc := 27) rw_234_27 rfl rfl rfl (to_an (pc := 28) rw_234_28 rfl (s_gR (pc := 29) rw_234_29 hG rfl (v := 96) rfl (to_i (pc := 32) rw_234_32 rfl (s_lal (pc := 34) rw_234_34 hG rfl (n := 30) rfl (A := x5.toInt) rfl (by omega) (by omega) (fun l9 => s_cl (pc := 35) rw_234_35 rfl (fun l10 => s_anyL (pc := 38) rw_234_38 (fun _ _ => rfl) (fun l11 => s_anyL (pc := 39) rw_234_39 (fun _ _ => rfl) (fun l12 => s_cl (pc := 40) rw_234_40 rfl (fun l13 => ?_))))))))))))
        refine s_lcmp (pc := 41) rw_234_41 (fun v14 => b_ine (pc := 42) rw_234_42 (A := v14.toInt) rfl (fun h15 => ?_) (fun h15 => ?_))
        · refine to_c (pc := 49) rw_234_49 (x := (0 : Int32)) rfl rfl ?_
          have i_18 := i_of (x := x4)
          refine s_add (pc := 50) rw_234_50 (A := x4.toInt) (B := 0) rfl rfl (by omega) (fun v16 e17 => to_is (pc := 51) rw_234_51 (ls2 := [.ref 77, .int w, .long x, .null, .int v16, .int x5]) rfl rfl (s_inc (pc := 53) rw_234_53 (ls2 := fun v => [.ref 77, .int w, .long x, .null, .int v16, .int v]) rfl rfl (fun _ => rfl) (A := x5.toInt) (B := 1) rfl rfl (by omega) (fun v19 e20 => to_go (pc := 56) rw_234_56 ?_)))
          exact ih N v16 v19 hG F0 (by omega) (by omega) (by omega)
        · refine to_c (pc := 45) rw_234_45 (x := (1 : Int32)) rfl rfl (to_go (pc := 46) rw_234_46 (s_any (pc := 50) rw_234_50 (fun _ _ => rfl) (fun v21 => to_is (pc := 51) rw_234_51 (ls2 := [.ref 77, .int w, .long x, .null, .int v21, .int x5]) rfl rfl (s_inc (pc := 53) rw_234_53 (ls2 := fun v => [.ref 77, .int w, .long x, .null, .int v21, .int v]) rfl rfl (fun _ => rfl) (A := x5.toInt) (B := 1) rfl rfl (by omega) (fun v22 e23 => to_go (pc := 56) rw_234_56 ?_)))))
          exact ih N v21 v22 hG F0 (by omega) (by omega) (by omega)
      · refine to_c (pc := 14) rw_231_14 (x := (1 : Int32)) rfl rfl (to_go (pc := 15) rw_231_15 (s_r1 (pc := 19) rw_231_19 (A := 1) rfl (by decide) (b_ine_t (pc := 24) rw_234_24 (A := 1) rfl (by decide) (to_c (pc := 49) rw_234_49 (x := (0 : Int32)) rfl rfl ?_))))
        have i_26 := i_of (x := x4)
        refine s_add (pc := 50) rw_234_50 (A := x4.toInt) (B := 0) rfl rfl (by omega) (fun v24 e25 => to_is (pc := 51) rw_234_51 (ls2 := [.ref 77, .int w, .long x, .null, .int v24, .int x5]) rfl rfl (s_inc (pc := 53) rw_234_53 (ls2 := fun v => [.ref 77, .int w, .long x, .null, .int v24, .int v]) rfl rfl (fun _ => rfl) (A := x5.toInt) (B := 1) rfl rfl (by omega) (fun v27 e28 => to_go (pc := 56) rw_234_56 ?_)))
        exact ih N v24 v27 hG F0 (by omega) (by omega) (by omega)
set_option maxRecDepth 4000 in
set_option maxHeartbeats 0 in
theorem C_234 {X : mm_X} {d : Nat} {M : mm_M} {Q : Option Value → mm_M → Prop} {w : Int32} {x : Int64} (hX : g_X X) (hd : 1 ≤ d) (hG : g_G M) (h : ∀ (r : Int32) (M1 : mm_M), g_G M1 → FR md_0 M M1 → Q (some (.int r)) M1) : mm_T X d 233 0 [.ref 77, .int w, .long x, .null, .null, .null] [] M Q := by
  have F0 : FR md_0 M M := FR.rf
  refine to_c (pc := 0) rw_234_0 (x := (0 : Int32)) rfl rfl (to_is (pc := 1) rw_234_1 (ls2 := [.ref 77, .int w, .long x, .null, .int (0 : Int32), .null]) rfl rfl (to_c (pc := 3) rw_234_3 (x := (0 : Int32)) rfl rfl (to_is (pc := 4) rw_234_4 (ls2 := [.ref 77, .int w, .long x, .null, .int (0 : Int32), .int (0 : Int32)]) rfl rfl ?_)))
  have k_29 : (0 : Int32).toInt = 0 := rfl
  exact (T_234_0 (w := w) (x := x) hX hd  h ((30 - (0 : Int32).toInt).toNat + 1)) M (0 : Int32) (0 : Int32) hG F0 (by omega) (by omega) (by omega)
set_option maxRecDepth 4000 in
set_option maxHeartbeats 0 in
theorem C_235 {X : mm_X} {d : Nat} {M : mm_M} {Q : Option Value → mm_M → Prop} {n : Int32} {w : Int32} (hX : g_X X) (hd : 3 ≤ d) (hG : g_G M) (q1 : NJ M) (h : ∀ (r : Int32) (M1 : mm_M), g_G M1 → FR md_k2 M M1 → Q (some (.int r)) M1) : mm_T X d 234 0 [.ref 77, .int n, .int w] [] M Q := by
  have F0 : FR md_k2 M M := FR.rf
  refine to_an (pc := 0) rw_235_0 rfl (to_c (pc := 1) rw_235_1 (x := (0 : Int32)) rfl rfl (s_pI (pc := 2) rw_235_2 hG rfl (fun M2 W1 => ?_)))
  have hG3 := g_wf hG W1 rfl rfl (by decide)
  have F4 := FR.w F0 W1 (show 77 = 77 ∧ 2 = 2 ∨ 94 ≤ 77 ∧ 77 ≤ 98 by decide)
  refine to_an (pc := 5) rw_235_5 rfl (to_in (pc := 6) rw_235_6 rfl (s_v (pc := 7) rw_235_7 (dp0 hd (by decide)) (ls0 := [.ref 77, .int n]) rfl (Nat.le_of_ble_eq_true rfl) (Nat.le_of_ble_eq_true rfl) rfl (to_rc rfl rfl rfl (g_o hG3 rfl)) rfl (to_in (pc := 0) rw_186_0 rfl (b_ilt (pc := 1) rw_186_1 (A := n.toInt) rfl (fun h5 => ?_) (fun h5 => ?_)))))
  · refine to_c (pc := 16) rw_186_16 (x := (0 : Int32)) rfl rfl (s_r1 (pc := 17) rw_186_17 (A := 0) rfl (by decide) (b_ieq_t (pc := 10) rw_235_10 (A := 0) rfl (by decide) (to_c (pc := 21) rw_235_21 (x := (-1 : Int32)) rfl rfl (to_r0 (pc := 22) rw_235_22 ?_))))
    have k_6 : (-1 : Int32).toInt = -1 := rfl
    exact h (-1 : Int32) M2 hG3 F4 
  · refine to_in (pc := 4) rw_186_4 rfl (to_an (pc := 5) rw_186_5 rfl ?_)
    have c_7 : M2.2.1 77 29 = (M.2.1 77 29) := (W_n W1 (by decide) rfl)
    have b_8 := g_b hG (a := 77) (i := 29) (lo := 0) (hi := 150) rfl rfl
    refine tt_gI (pc := 6) rw_186_6 (g_o hG3 rfl) (v := (M.2.1 77 29)) c_7 (b_cgt (pc := 9) rw_186_9 (A := n.toInt) (B := (M.2.1 77 29).toInt) rfl rfl (fun h9 => ?_) (fun h9 => ?_))
    · refine to_c (pc := 16) rw_186_16 (x := (0 : Int32)) rfl rfl (s_r1 (pc := 17) rw_186_17 (A := 0) rfl (by decide) (b_ieq_t (pc := 10) rw_235_10 (A := 0) rfl (by decide) (to_c (pc := 21) rw_235_21 (x := (-1 : Int32)) rfl rfl (to_r0 (pc := 22) rw_235_22 ?_))))
      have k_10 : (-1 : Int32).toInt = -1 := rfl
      exact h (-1 : Int32) M2 hG3 F4 
    · refine to_c (pc := 12) rw_186_12 (x := (1 : Int32)) rfl rfl (to_go (pc := 13) rw_186_13 (s_r1 (pc := 17) rw_186_17 (A := 1) rfl (by decide) (b_ieq_f (pc := 10) rw_235_10 (A := 1) rfl (by decide) (to_an (pc := 13) rw_235_13 rfl (to_in (pc := 14) rw_235_14 rfl (s_v (pc := 15) rw_235_15 (dp0 hd (by decide)) (ls0 := [.ref 77, .int w]) rfl (Nat.le_of_ble_eq_true rfl) (Nat.le_of_ble_eq_true rfl) rfl (to_rc rfl rfl rfl (g_o hG3 rfl)) rfl (to_in (pc := 0) rw_180_0 rfl (b_ilt (pc := 1) rw_180_1 (A := w.toInt) rfl (fun h11 => ?_) (fun h11 => ?_)))))))))
      · refine to_c (pc := 16) rw_180_16 (x := (0 : Int32)) rfl rfl (s_r1 (pc := 17) rw_180_17 (A := 0) rfl (by decide) (b_ine_f (pc := 18) rw_235_18 (A := 0) rfl (by decide) (to_c (pc := 21) rw_235_21 (x := (-1 : Int32)) rfl rfl (to_r0 (pc := 22) rw_235_22 ?_))))
        have k_12 : (-1 : Int32).toInt = -1 := rfl
        exact h (-1 : Int32) M2 hG3 F4 
      · refine to_in (pc := 4) rw_180_4 rfl (to_an (pc := 5) rw_180_5 rfl ?_)
        have c_13 : M2.2.1 77 13 = (M.2.1 77 13) := (W_n W1 (by decide) rfl)
        have b_14 := g_b hG (a := 77) (i := 13) (lo := 0) (hi := 12) rfl rfl
        refine tt_gI (pc := 6) rw_180_6 (g_o hG3 rfl) (v := (M.2.1 77 13)) c_13 (b_cge (pc := 9) rw_180_9 (A := w.toInt) (B := (M.2.1 77 13).toInt) rfl rfl (fun h15 => ?_) (fun h15 => ?_))
        · refine to_c (pc := 16) rw_180_16 (x := (0 : Int32)) rfl rfl (s_r1 (pc := 17) rw_180_17 (A := 0) rfl (by decide) (b_ine_f (pc := 18) rw_235_18 (A := 0) rfl (by decide) (to_c (pc := 21) rw_235_21 (x := (-1 : Int32)) rfl rfl (to_r0 (pc := 22) rw_235_22 ?_))))
          have k_16 : (-1 : Int32).toInt = -1 := rfl
          exact h (-1 : Int32) M2 hG3 F4 
        · refine to_c (pc := 12) rw_180_12 (x := (1 : Int32)) rfl rfl (to_go (pc := 13) rw_180_13 (s_r1 (pc := 17) rw_180_17 (A := 1) rfl (by decide) (b_ine_t (pc := 18) rw_235_18 (A := 1) rfl (by decide) (to_an (pc := 23) rw_235_23 rfl (to_in (pc := 24) rw_235_24 rfl (s_v (pc := 25) rw_235_25 (dp0 hd (by decide)) (ls0 := [.ref 77, .int n, .null, .null]) rfl (Nat.le_of_ble_eq_true rfl) (Nat.le_of_ble_eq_true rfl) rfl (to_rc rfl rfl rfl (g_o hG3 rfl)) rfl ?_))))))
          have t_17 : (M2.2.1 77 29).toInt = (M.2.1 77 29).toInt := congrArg Int32.toInt c_7
          have j_18 := (NJ_f (fun a i z => W_n W1 (by /-r77,2-/ omega) rfl) q1)
          refine C_189 hX (dp1 hd (by decide)) hG3 (by omega) (by omega) (by omega) j_18 (n := n) (fun M21 hG20 F19 => ?_)
          have F22 := FR.c F4 F19 tg_263
          refine to_an (pc := 28) rw_235_28 rfl (to_in (pc := 29) rw_235_29 rfl (to_an (pc := 30) rw_235_30 rfl (s_gR (pc := 31) rw_235_31 hG20 rfl (v := 95) rfl (to_in (pc := 34) rw_235_34 rfl (s_lal (pc := 35) rw_235_35 hG20 rfl (n := 12) rfl (A := w.toInt) rfl (by omega) (by omega) (fun l23 => s_v (pc := 36) rw_235_36 (dp0 hd (by decide)) (ls0 := [.ref 77, .int w, .long l23, .null, .null, .null]) rfl (Nat.le_of_ble_eq_true rfl) (Nat.le_of_ble_eq_true rfl) rfl (to_rc rfl rfl rfl (g_o hG20 rfl)) rfl (C_234 hX (dp1 hd (by decide)) hG20 (w := w) (x := l23) (fun r24 M27 hG26 F25 => ?_))))))))
          have F28 := FR.c F22 F25 tg_264
          refine to_r0 (pc := 39) rw_235_39 ?_
          exact h r24 M27 hG26 F28 
set_option maxRecDepth 4000 in
set_option maxHeartbeats 0 in
theorem T_236_0 {X : mm_X} {d : Nat} {M : mm_M} {Q : Option Value → mm_M → Prop} {w : Int32} {x : Int64} (hX : g_X X) (hd : 2 ≤ d) (h : ∀ (r : Int32) (M1 : mm_M), g_G M1 → FR md_0 M M1 → Q (some (.int r)) M1) : ∀ nn9 : Nat, (∀ (N : mm_M) (x4 : Int32) (x5 : Int32), g_G N → FR md_0 M N → (0 ≤ x5.toInt) → (x5.toInt ≤ 12) → 12 - x5.toInt < (nn9 : Int) → mm_T X d 235 6 [.ref 77, .int w, .long x, .null, .int x4, .int x5] [] N Q) := by
  intro nn9
  induction nn9 with
  | zero =>
    intro N x4 x5 hG F0 g1 g2 hm
    exfalso; omega
  | succ nn9 ih =>
    intro N x4 x5 hG F0 g1 g2 hm
    refine to_i (pc := 6) rw_236_6 rfl (to_an (pc := 8) rw_236_8 rfl ?_)
    have b_1 := g_b hG (a := 77) (i := 13) (lo := 0) (hi := 12) rfl rfl
    refine tt_gI (pc := 9) rw_236_9 (g_o hG rfl) (v := (N.2.1 77 13)) rfl (b_cge (pc := 12) rw_236_12 (A := x5.toInt) (B := (N.2.1 77 13).toInt) rfl rfl (fun h2 => ?_) (fun h2 => ?_))
    · refine to_i (pc := 48) rw_236_48 rfl (to_r0 (pc := 50) rw_236_50 ?_)
      exact h x4 N hG F0 
    · refine to_i (pc := 15) rw_236_15 rfl (to_i (pc := 17) rw_236_17 rfl (to_in (pc := 19) rw_236_19 rfl (b_cne (pc := 20) rw_236_20 (A := x5.toInt) (B := w.toInt) rfl rfl (fun h3 => ?_) (fun h3 => ?_))))
      · refine to_an (pc := 27) rw_236_27 rfl (s_gR (pc := 28) rw_236_28 hG rfl (v := 95) rfl (to_i (pc := 31) rw_236_31 rfl (s_lal (pc := 33) rw_236_33 hG rfl (n := 12) rfl (A := x5.toInt) rfl (by omega) (by omega) (fun l4 => to_ln (pc := 34) rw_236_34 rfl rfl rfl (s_anyL (pc := 35) rw_236_35 (fun _ _ => rfl) (fun l5 => s_s (pc := 36) rw_236_36 (dp0 hd (by decide)) (ls0 := [.long l5, .null, .null, .null]) rfl (Nat.le_of_ble_eq_true rfl) (Nat.le_of_ble_eq_true rfl) rfl (to_rcs rfl rfl) rfl (C_151 hX (dp1 hd (by decide)) hG (x := l5) (fun r6 M11 hG8 F7 p_9 p_10 => ?_))))))))
        have F12 := FR.c F0 F7 tg_29
        refine s_any (pc := 39) rw_236_39 (fun _ _ => rfl) (fun v13 => to_is (pc := 40) rw_236_40 (ls2 := [.ref 77, .int w, .long x, .null, .int v13, .int x5]) rfl rfl (s_inc (pc := 42) rw_236_42 (ls2 := fun v => [.ref 77, .int w, .long x, .null, .int v13, .int v]) rfl rfl (fun _ => rfl) (A := x5.toInt) (B := 1) rfl rfl (by omega) (fun v14 e15 => to_go (pc := 45) rw_236_45 ?_)))
        exact ih M11 v13 v14 hG8 F12 (by omega) (by omega) (by omega)
      · refine to_c (pc := 23) rw_236_23 (x := (0 : Int32)) rfl rfl (to_go (pc := 24) rw_236_24 ?_)
        have i_18 := i_of (x := x4)
        refine s_add (pc := 39) rw_236_39 (A := x4.toInt) (B := 0) rfl rfl (by omega) (fun v16 e17 => to_is (pc := 40) rw_236_40 (ls2 := [.ref 77, .int w, .long x, .null, .int v16, .int x5]) rfl rfl (s_inc (pc := 42) rw_236_42 (ls2 := fun v => [.ref 77, .int w, .long x, .null, .int v16, .int v]) rfl rfl (fun _ => rfl) (A := x5.toInt) (B := 1) rfl rfl (by omega) (fun v19 e20 => to_go (pc := 45) rw_236_45 ?_)))
        exact ih N v16 v19 hG F0 (by omega) (by omega) (by omega)
set_option maxRecDepth 4000 in
set_option maxHeartbeats 0 in
theorem C_236 {X : mm_X} {d : Nat} {M : mm_M} {Q : Option Value → mm_M → Prop} {w : Int32} {x : Int64} (hX : g_X X) (hd : 2 ≤ d) (hG : g_G M) (h : ∀ (r : Int32) (M1 : mm_M), g_G M1 → FR md_0 M M1 → Q (some (.int r)) M1) : mm_T X d 235 0 [.ref 77, .int w, .long x, .null, .null, .null] [] M Q := by
  have F0 : FR md_0 M M := FR.rf
  refine to_c (pc := 0) rw_236_0 (x := (0 : Int32)) rfl rfl (to_is (pc := 1) rw_236_1 (ls2 := [.ref 77, .int w, .long x, .null, .int (0 : Int32), .null]) rfl rfl (to_c (pc := 3) rw_236_3 (x := (0 : Int32)) rfl rfl (to_is (pc := 4) rw_236_4 (ls2 := [.ref 77, .int w, .long x, .null, .int (0 : Int32), .int (0 : Int32)]) rfl rfl ?_)))
  have k_21 : (0 : Int32).toInt = 0 := rfl
  exact (T_236_0 (w := w) (x := x) hX hd  h ((12 - (0 : Int32).toInt).toNat + 1)) M (0 : Int32) (0 : Int32) hG F0 (by omega) (by omega) (by omega)
set_option maxRecDepth 4000 in
set_option maxHeartbeats 0 in
theorem T_239_0 {X : mm_X} {d : Nat} {M : mm_M} {Q : Option Value → mm_M → Prop} {c : Int32} {f : Int32} {t : Int32} {w : Int32} (hX : g_X X) (hd : 2 ≤ d) (q1 : 0 ≤ c.toInt) (q2 : c.toInt ≤ 29) (q3 : 0 ≤ f.toInt) (q4 : f.toInt ≤ 7) (h : ∀ (r : Int32) (M1 : mm_M), g_G M1 → FR md_mw M M1 → Q (some (.int r)) M1) : ∀ nn9 : Nat, (∀ (N : mm_M) (u1 : Value) (u2 : Value) (y5 : Int64) (x7 : Int32) (x8 : Int32) (x9 : Int32) (x10 : Int32) (x11 : Int32) (u12 : Value) (u13 : Value) (u14 : Value) (u15 : Value), g_G N → FR md_mw M N → (0 ≤ x11.toInt) → (x11.toInt ≤ 4096) → (0 ≤ x7.toInt) → (x7.toInt ≤ 12) → (4096 - x11.toInt) * 100 + 50 < (nn9 : Int) → mm_T X d 238 88 [.ref 77, u1, u2, .int t, .int w, .long y5, .null, .int x7, .int x8, .int x9, .int x10, .int x11, u12, u13, u14, u15] [] N Q) ∧ (∀ (N : mm_M) (u1 : Value) (u2 : Value) (y5 : Int64) (x7 : Int32) (x8 : Int32) (x9 : Int32) (x10 : Int32) (x11 : Int32) (y12 : Int64) (x14 : Int32) (x15 : Int32), g_G N → FR md_mw M N → (0 ≤ x11.toInt) → (x11.toInt ≤ 4095) → (0 ≤ x7.toInt) → (x7.toInt ≤ 12) → (0 ≤ x15.toInt) → (x15.toInt ≤ 12) → (4096 - x11.toInt) * 100 + 12 - x15.toInt < (nn9 : Int) → mm_T X d 238 106 [.ref 77, u1, u2, .int t, .int w, .long y5, .null, .int x7, .int x8, .int x9, .int x10, .int x11, .long y12, .null, .int x14, .int x15] [] N Q) := by
  intro nn9
  induction nn9 with
  | zero =>
    refine ⟨?_, ?_⟩
    · intro N u1 u2 y5 x7 x8 x9 x10 x11 u12 u13 u14 u15 hG F0 g1 g2 g3 g4 hm
      exfalso; omega
    · intro N u1 u2 y5 x7 x8 x9 x10 x11 y12 x14 x15 hG F0 g1 g2 g3 g4 g5 g6 hm
      exfalso; omega
  | succ nn9 ih =>
    refine ⟨?_, ?_⟩
    · intro N u1 u2 y5 x7 x8 x9 x10 x11 u12 u13 u14 u15 hG F0 g1 g2 g3 g4 hm
      refine to_i (pc := 88) rw_239_88 rfl (to_c (pc := 90) rw_239_90 (x := (1 : Int32)) rfl rfl (to_i (pc := 91) rw_239_91 rfl (s_shl12 (pc := 93) rw_239_93 (B := x7.toInt) rfl (by omega) (fun v1 _ _ => b_cge (pc := 94) rw_239_94 (A := x11.toInt) (B := v1.toInt) rfl rfl (fun h2 => ?_) (fun h2 => ?_)))))
      · refine to_i (pc := 205) rw_239_205 rfl (b_ine (pc := 207) rw_239_207 (A := w.toInt) rfl (fun h3 => ?_) (fun h3 => ?_))
        · refine to_i (pc := 224) rw_239_224 rfl (to_c (pc := 226) rw_239_226 (x := (1 : Int32)) rfl rfl (b_cne (pc := 227) rw_239_227 (A := w.toInt) (B := 1) rfl rfl (fun h4 => ?_) (fun h4 => ?_)))
          · refine to_i (pc := 235) rw_239_235 rfl (to_r0 (pc := 237) rw_239_237 ?_)
            exact h x10 N hG F0 
          · refine to_i (pc := 230) rw_239_230 rfl (to_go (pc := 232) rw_239_232 (to_r0 (pc := 237) rw_239_237 ?_))
            exact h x9 N hG F0 
        · refine to_i (pc := 210) rw_239_210 rfl (b_ine (pc := 212) rw_239_212 (A := x10.toInt) rfl (fun h5 => ?_) (fun h5 => ?_))
          · refine to_i (pc := 219) rw_239_219 rfl (to_go (pc := 221) rw_239_221 (to_r0 (pc := 237) rw_239_237 ?_))
            exact h x8 N hG F0 
          · refine to_c (pc := 215) rw_239_215 (x := (0 : Int32)) rfl rfl (to_go (pc := 216) rw_239_216 (to_r0 (pc := 237) rw_239_237 ?_))
            have k_6 : (0 : Int32).toInt = 0 := rfl
            exact h (0 : Int32) N hG F0 
      · refine s_cl (pc := 97) rw_239_97 rfl (fun l7 => to_ls (pc := 98) rw_239_98 (ls2 := [.ref 77, u1, u2, .int t, .int w, .long y5, .null, .int x7, .int x8, .int x9, .int x10, .int x11, .long l7, .null, u14, u15]) rfl rfl (to_c (pc := 100) rw_239_100 (x := (0 : Int32)) rfl rfl (to_is (pc := 101) rw_239_101 (ls2 := [.ref 77, u1, u2, .int t, .int w, .long y5, .null, .int x7, .int x8, .int x9, .int x10, .int x11, .long l7, .null, .int (0 : Int32), u15]) rfl rfl (to_c (pc := 103) rw_239_103 (x := (0 : Int32)) rfl rfl (to_is (pc := 104) rw_239_104 (ls2 := [.ref 77, u1, u2, .int t, .int w, .long y5, .null, .int x7, .int x8, .int x9, .int x10, .int x11, .long l7, .null, .int (0 : Int32), .int (0 : Int32)]) rfl rfl ?_)))))
        have k_8 : (0 : Int32).toInt = 0 := rfl
        exact ih.2 N (u1) (u2) y5 x7 x8 x9 x10 x11 l7 (0 : Int32) (0 : Int32) hG F0 (by omega) (by omega) (by omega) (by omega) (by omega) (by omega) (by omega)
    · intro N u1 u2 y5 x7 x8 x9 x10 x11 y12 x14 x15 hG F0 g1 g2 g3 g4 g5 g6 hm
      refine to_i (pc := 106) rw_239_106 rfl (to_i (pc := 108) rw_239_108 rfl (b_cge (pc := 110) rw_239_110 (A := x15.toInt) (B := x7.toInt) rfl rfl (fun h9 => ?_) (fun h9 => ?_)))
      · refine to_l (pc := 163) rw_239_163 rfl rfl rfl (to_l (pc := 165) rw_239_165 rfl rfl rfl (s_cl (pc := 167) rw_239_167 rfl (fun l10 => s_anyL (pc := 170) rw_239_170 (fun _ _ => rfl) (fun l11 => s_anyL (pc := 171) rw_239_171 (fun _ _ => rfl) (fun l12 => s_s (pc := 172) rw_239_172 (dp0 hd (by decide)) (ls0 := [.long l12, .null, .null, .null]) rfl (Nat.le_of_ble_eq_true rfl) (Nat.le_of_ble_eq_true rfl) rfl (to_rcs rfl rfl) rfl (C_151 hX (dp1 hd (by decide)) hG (x := l12) (fun r13 M18 hG15 F14 p_16 p_17 => ?_)))))))
        have F19 := FR.c F0 F14 tg_350
        refine to_in (pc := 175) rw_239_175 rfl (b_cle (pc := 176) rw_239_176 (A := r13.toInt) (B := t.toInt) rfl rfl (fun h20 => ?_) (fun h20 => ?_))
        · refine to_i (pc := 182) rw_239_182 rfl (to_i (pc := 184) rw_239_184 rfl (s_any (pc := 186) rw_239_186 (fun _ _ => rfl) (fun v21 => to_is (pc := 187) rw_239_187 (ls2 := [.ref 77, u1, u2, .int t, .int w, .long y5, .null, .int x7, .int v21, .int x9, .int x10, .int x11, .long y12, .null, .int x14, .int x15]) rfl rfl (to_i (pc := 189) rw_239_189 rfl (to_i (pc := 191) rw_239_191 rfl (s_any (pc := 193) rw_239_193 (fun _ _ => rfl) (fun v23 => to_is (pc := 194) rw_239_194 (ls2 := [.ref 77, u1, u2, .int t, .int w, .long y5, .null, .int x7, .int v21, .int v23, .int x10, .int x11, .long y12, .null, .int x14, .int x15]) rfl rfl (s_incx (pc := 196) rw_239_196 (ls2 := fun v => [.ref 77, u1, u2, .int t, .int w, .long y5, .null, .int x7, .int v21, .int v23, .int v, .int x11, .long y12, .null, .int x14, .int x15]) rfl rfl (fun _ => rfl) (fun v24 => s_inc (pc := 199) rw_239_199 (ls2 := fun v => [.ref 77, u1, u2, .int t, .int w, .long y5, .null, .int x7, .int v21, .int v23, .int v24, .int v, .long y12, .null, .int x14, .int x15]) rfl rfl (fun _ => rfl) (A := x11.toInt) (B := 1) rfl rfl (by omega) (fun v26 e27 => to_go (pc := 202) rw_239_202 ?_))))))))))
          exact ih.1 M18 (u1) (u2) y5 x7 v21 v23 v24 v26 (.long y12) (.null) (.int x14) (.int x15) hG15 F19 (by omega) (by omega) (by omega) (by omega) (by omega)
        · refine to_go (pc := 179) rw_239_179 (s_inc (pc := 199) rw_239_199 (ls2 := fun v => [.ref 77, u1, u2, .int t, .int w, .long y5, .null, .int x7, .int x8, .int x9, .int x10, .int v, .long y12, .null, .int x14, .int x15]) rfl rfl (fun _ => rfl) (A := x11.toInt) (B := 1) rfl rfl (by omega) (fun v28 e29 => to_go (pc := 202) rw_239_202 ?_))
          exact ih.1 M18 (u1) (u2) y5 x7 x8 x9 x10 v28 (.long y12) (.null) (.int x14) (.int x15) hG15 F19 (by omega) (by omega) (by omega) (by omega) (by omega)
      · refine to_i (pc := 113) rw_239_113 rfl (to_i (pc := 115) rw_239_115 rfl (s_shr (pc := 117) rw_239_117 (A := x11.toInt) rfl (by omega) (fun v30 _ _ => to_c (pc := 118) rw_239_118 (x := (1 : Int32)) rfl rfl (s_and (pc := 119) rw_239_119 (B := 1) rfl (by omega) (fun v31 e32 _ _ => b_ine (pc := 120) rw_239_120 (A := v31.toInt) rfl (fun h33 => ?_) (fun h33 => ?_))))))
        · refine to_l (pc := 126) rw_239_126 rfl rfl rfl (to_an (pc := 128) rw_239_128 rfl (s_gR (pc := 129) rw_239_129 hG rfl (v := 95) rfl (to_an (pc := 132) rw_239_132 rfl (s_gR (pc := 133) rw_239_133 hG rfl (v := 119) rfl (to_i (pc := 136) rw_239_136 rfl (s_ial (pc := 138) rw_239_138 hG rfl (n := 12) rfl rfl (A := x15.toInt) rfl (by omega) (by omega) (lo := 0) (hi := 11) rfl rfl (fun v34 w_35 _ _ => s_lal (pc := 139) rw_239_139 hG rfl (n := 12) rfl (A := v34.toInt) rfl (by omega) (by omega) (fun l36 => s_anyL (pc := 140) rw_239_140 (fun _ _ => rfl) (fun l37 => to_ls (pc := 141) rw_239_141 (ls2 := [.ref 77, u1, u2, .int t, .int w, .long y5, .null, .int x7, .int x8, .int x9, .int x10, .int x11, .long l37, .null, .int x14, .int x15]) rfl rfl (to_i (pc := 143) rw_239_143 rfl (to_c (pc := 145) rw_239_145 (x := (1 : Int32)) rfl rfl ?_)))))))))))
          refine to_an (pc := 146) rw_239_146 rfl (s_gR (pc := 147) rw_239_147 hG rfl (v := 119) rfl (to_i (pc := 150) rw_239_150 rfl (s_ialk (pc := 152) rw_239_152 hG rfl (n := 12) rfl rfl (A := x15.toInt) rfl (by omega) (by omega) (v := v34) w_35 (s_shl12 (pc := 153) rw_239_153 (B := v34.toInt) rfl (by omega) (fun v40 _ _ => s_any (pc := 154) rw_239_154 (fun _ _ => rfl) (fun v41 => to_is (pc := 155) rw_239_155 (ls2 := [.ref 77, u1, u2, .int t, .int w, .long y5, .null, .int x7, .int x8, .int x9, .int x10, .int x11, .long l37, .null, .int v41, .int x15]) rfl rfl (s_inc (pc := 157) rw_239_157 (ls2 := fun v => [.ref 77, u1, u2, .int t, .int w, .long y5, .null, .int x7, .int x8, .int x9, .int x10, .int x11, .long l37, .null, .int v41, .int v]) rfl rfl (fun _ => rfl) (A := x15.toInt) (B := 1) rfl rfl (by omega) (fun v42 e43 => to_go (pc := 160) rw_239_160 ?_))))))))
          exact ih.2 N (u1) (u2) y5 x7 x8 x9 x10 x11 l37 v41 v42 hG F0 (by omega) (by omega) (by omega) (by omega) (by omega) (by omega) (by omega)
        · refine to_go (pc := 123) rw_239_123 (s_inc (pc := 157) rw_239_157 (ls2 := fun v => [.ref 77, u1, u2, .int t, .int w, .long y5, .null, .int x7, .int x8, .int x9, .int x10, .int x11, .long y12, .null, .int x14, .int v]) rfl rfl (fun _ => rfl) (A := x15.toInt) (B := 1) rfl rfl (by omega) (fun v44 e45 => to_go (pc := 160) rw_239_160 ?_))
          exact ih.2 N (u1) (u2) y5 x7 x8 x9 x10 x11 y12 x14 v44 hG F0 (by omega) (by omega) (by omega) (by omega) (by omega) (by omega) (by omega)
set_option maxRecDepth 4000 in
set_option maxHeartbeats 0 in
theorem T_239_1 {X : mm_X} {d : Nat} {M : mm_M} {Q : Option Value → mm_M → Prop} {c : Int32} {f : Int32} {t : Int32} {w : Int32} (hX : g_X X) (hd : 2 ≤ d) (q1 : 0 ≤ c.toInt) (q2 : c.toInt ≤ 29) (q3 : 0 ≤ f.toInt) (q4 : f.toInt ≤ 7) (h : ∀ (r : Int32) (M1 : mm_M), g_G M1 → FR md_mw M M1 → Q (some (.int r)) M1) : ∀ nn9 : Nat, (∀ (N : mm_M) (u1 : Value) (y5 : Int64) (x7 : Int32) (x8 : Int32) (u9 : Value) (u10 : Value) (u11 : Value) (u12 : Value) (u13 : Value) (u14 : Value) (u15 : Value), g_G N → FR md_mw M N → (0 ≤ x8.toInt) → (x8.toInt ≤ 12) → (0 ≤ x7.toInt) → (x7.toInt ≤ 12) → (x7.toInt ≤ x8.toInt) → 12 - x8.toInt < (nn9 : Int) → mm_T X d 238 14 [.ref 77, u1, .int f, .int t, .int w, .long y5, .null, .int x7, .int x8, u9, u10, u11, u12, u13, u14, u15] [] N Q) := by
  intro nn9
  induction nn9 with
  | zero =>
    intro N u1 y5 x7 x8 u9 u10 u11 u12 u13 u14 u15 hG F0 g1 g2 g3 g4 g5 hm
    exfalso; omega
  | succ nn9 ih =>
    intro N u1 y5 x7 x8 u9 u10 u11 u12 u13 u14 u15 hG F0 g1 g2 g3 g4 g5 hm
    refine to_i (pc := 14) rw_239_14 rfl (to_an (pc := 16) rw_239_16 rfl ?_)
    have b_46 := g_b hG (a := 77) (i := 13) (lo := 0) (hi := 12) rfl rfl
    refine tt_gI (pc := 17) rw_239_17 (g_o hG rfl) (v := (N.2.1 77 13)) rfl (b_cge (pc := 20) rw_239_20 (A := x8.toInt) (B := (N.2.1 77 13).toInt) rfl rfl (fun h47 => ?_) (fun h47 => ?_))
    · refine to_c (pc := 74) rw_239_74 (x := (4095 : Int32)) rfl rfl (to_is (pc := 77) rw_239_77 (ls2 := [.ref 77, u1, .int f, .int t, .int w, .long y5, .null, .int x7, .int (4095 : Int32), u9, u10, u11, u12, u13, u14, u15]) rfl rfl (to_c (pc := 79) rw_239_79 (x := (0 : Int32)) rfl rfl (to_is (pc := 80) rw_239_80 (ls2 := [.ref 77, u1, .int f, .int t, .int w, .long y5, .null, .int x7, .int (4095 : Int32), .int (0 : Int32), u10, u11, u12, u13, u14, u15]) rfl rfl (to_c (pc := 82) rw_239_82 (x := (0 : Int32)) rfl rfl (to_is (pc := 83) rw_239_83 (ls2 := [.ref 77, u1, .int f, .int t, .int w, .long y5, .null, .int x7, .int (4095 : Int32), .int (0 : Int32), .int (0 : Int32), u11, u12, u13, u14, u15]) rfl rfl (to_c (pc := 85) rw_239_85 (x := (0 : Int32)) rfl rfl (to_is (pc := 86) rw_239_86 (ls2 := [.ref 77, u1, .int f, .int t, .int w, .long y5, .null, .int x7, .int (4095 : Int32), .int (0 : Int32), .int (0 : Int32), .int (0 : Int32), u12, u13, u14, u15]) rfl rfl ?_)))))))
      have k_48 : (4095 : Int32).toInt = 4095 := rfl
      have k_49 : (0 : Int32).toInt = 0 := rfl
      exact (T_239_0 (c := c) (f := f) (t := t) (w := w) hX hd q1 q2 q3 q4 h (((4096 - (0 : Int32).toInt) * 100 + 50).toNat + 1)).1 N (u1) (.int f) y5 x7 (4095 : Int32) (0 : Int32) (0 : Int32) (0 : Int32) (u12) (u13) (u14) (u15) hG F0 (by omega) (by omega) (by omega) (by omega) (by omega)
    · refine to_an (pc := 23) rw_239_23 rfl (s_gR (pc := 24) rw_239_24 hG rfl (v := 86) rfl (to_i (pc := 27) rw_239_27 rfl (s_ial (pc := 29) rw_239_29 hG rfl (n := 24) rfl rfl (A := x8.toInt) rfl (by omega) (by omega) (lo := 0) (hi := 7) rfl rfl (fun v50 w_51 _ _ => to_in (pc := 30) rw_239_30 rfl (b_cne (pc := 31) rw_239_31 (A := v50.toInt) (B := f.toInt) rfl rfl (fun h52 => ?_) (fun h52 => ?_))))))
      · refine s_inc (pc := 68) rw_239_68 (ls2 := fun v => [.ref 77, u1, .int f, .int t, .int w, .long y5, .null, .int x7, .int v, u9, u10, u11, u12, u13, u14, u15]) rfl rfl (fun _ => rfl) (A := x8.toInt) (B := 1) rfl rfl (by omega) (fun v53 e54 => to_go (pc := 71) rw_239_71 ?_)
        exact ih N (u1) y5 x7 v53 (u9) (u10) (u11) (u12) (u13) (u14) (u15) hG F0 (by omega) (by omega) (by omega) (by omega) (by omega) (by omega)
      · refine to_an (pc := 34) rw_239_34 rfl (s_gR (pc := 35) rw_239_35 hG rfl (v := 95) rfl (to_i (pc := 38) rw_239_38 rfl (s_lal (pc := 40) rw_239_40 hG rfl (n := 12) rfl (A := x8.toInt) rfl (by omega) (by omega) (fun l55 => to_l (pc := 41) rw_239_41 rfl rfl rfl (s_cl (pc := 43) rw_239_43 rfl (fun l56 => s_anyL (pc := 46) rw_239_46 (fun _ _ => rfl) (fun l57 => s_anyL (pc := 47) rw_239_47 (fun _ _ => rfl) (fun l58 => s_cl (pc := 48) rw_239_48 rfl (fun l59 => s_lcmp (pc := 49) rw_239_49 (fun v60 => b_ieq (pc := 50) rw_239_50 (A := v60.toInt) rfl (fun h61 => ?_) (fun h61 => ?_)))))))))))
        · refine to_an (pc := 56) rw_239_56 rfl (s_gR (pc := 57) rw_239_57 hG rfl (v := 119) rfl (to_i (pc := 60) rw_239_60 rfl (to_i (pc := 62) rw_239_62 rfl (s_ias (pc := 64) rw_239_64 hG rfl (n := 12) rfl (A := x7.toInt) rfl (by omega) (by omega) (fun M63 W62 => ?_)))))
          have hG64 := g_w hG W62 (A := x8.toInt) rfl (lo := 0) (hi := 11) rfl rfl (by omega) (by decide)
          have F65 := FR.w F0 W62 (show 119 = 119 by decide)
          refine s_inc (pc := 65) rw_239_65 (ls2 := fun v => [.ref 77, u1, .int f, .int t, .int w, .long y5, .null, .int v, .int x8, u9, u10, u11, u12, u13, u14, u15]) rfl rfl (fun _ => rfl) (A := x7.toInt) (B := 1) rfl rfl (by omega) (fun v66 e67 => s_inc (pc := 68) rw_239_68 (ls2 := fun v => [.ref 77, u1, .int f, .int t, .int w, .long y5, .null, .int v66, .int v, u9, u10, u11, u12, u13, u14, u15]) rfl rfl (fun _ => rfl) (A := x8.toInt) (B := 1) rfl rfl (by omega) (fun v68 e69 => to_go (pc := 71) rw_239_71 ?_))
          exact ih M63 (u1) y5 v66 v68 (u9) (u10) (u11) (u12) (u13) (u14) (u15) hG64 F65 (by omega) (by omega) (by omega) (by omega) (by omega) (by omega)
        · refine to_go (pc := 53) rw_239_53 (s_inc (pc := 68) rw_239_68 (ls2 := fun v => [.ref 77, u1, .int f, .int t, .int w, .long y5, .null, .int x7, .int v, u9, u10, u11, u12, u13, u14, u15]) rfl rfl (fun _ => rfl) (A := x8.toInt) (B := 1) rfl rfl (by omega) (fun v70 e71 => to_go (pc := 71) rw_239_71 ?_))
          exact ih N (u1) y5 x7 v70 (u9) (u10) (u11) (u12) (u13) (u14) (u15) hG F0 (by omega) (by omega) (by omega) (by omega) (by omega) (by omega)
set_option maxRecDepth 4000 in
set_option maxHeartbeats 0 in
theorem C_239 {X : mm_X} {d : Nat} {M : mm_M} {Q : Option Value → mm_M → Prop} {c : Int32} {f : Int32} {t : Int32} {w : Int32} (hX : g_X X) (hd : 2 ≤ d) (hG : g_G M) (q1 : 0 ≤ c.toInt) (q2 : c.toInt ≤ 29) (q3 : 0 ≤ f.toInt) (q4 : f.toInt ≤ 7) (h : ∀ (r : Int32) (M1 : mm_M), g_G M1 → FR md_mw M M1 → Q (some (.int r)) M1) : mm_T X d 238 0 [.ref 77, .int c, .int f, .int t, .int w, .null, .null, .null, .null, .null, .null, .null, .null, .null, .null, .null] [] M Q := by
  have F0 : FR md_mw M M := FR.rf
  refine to_an (pc := 0) rw_239_0 rfl (to_in (pc := 1) rw_239_1 rfl (to_in (pc := 2) rw_239_2 rfl (s_v (pc := 3) rw_239_3 (dp0 hd (by decide)) (ls0 := [.ref 77, .int c, .int f]) rfl (Nat.le_of_ble_eq_true rfl) (Nat.le_of_ble_eq_true rfl) rfl (to_rc rfl rfl rfl (g_o hG rfl)) rfl (C_232 hX (dp1 hd (by decide)) hG (by omega) (by omega) (by omega) (by omega) (c := c) (f := f) (fun r72 M75 hG74 F73 => ?_)))))
  have F76 := FR.c F0 F73 tg_350
  refine to_ls (pc := 6) rw_239_6 (ls2 := [.ref 77, .int c, .int f, .int t, .int w, .long r72, .null, .null, .null, .null, .null, .null, .null, .null, .null, .null]) rfl rfl (to_c (pc := 8) rw_239_8 (x := (0 : Int32)) rfl rfl (to_is (pc := 9) rw_239_9 (ls2 := [.ref 77, .int c, .int f, .int t, .int w, .long r72, .null, .int (0 : Int32), .null, .null, .null, .null, .null, .null, .null, .null]) rfl rfl (to_c (pc := 11) rw_239_11 (x := (0 : Int32)) rfl rfl (to_is (pc := 12) rw_239_12 (ls2 := [.ref 77, .int c, .int f, .int t, .int w, .long r72, .null, .int (0 : Int32), .int (0 : Int32), .null, .null, .null, .null, .null, .null, .null]) rfl rfl ?_))))
  have k_77 : (0 : Int32).toInt = 0 := rfl
  exact (T_239_1 (c := c) (f := f) (t := t) (w := w) hX hd q1 q2 q3 q4 h ((12 - (0 : Int32).toInt).toNat + 1)) M75 (.int c) r72 (0 : Int32) (0 : Int32) (.null) (.null) (.null) (.null) (.null) (.null) (.null) hG74 F76 (by omega) (by omega) (by omega) (by omega) (by omega) (by omega)
set_option maxRecDepth 4000 in
set_option maxHeartbeats 0 in
theorem T_240_0 {X : mm_X} {d : Nat} {M : mm_M} {Q : Option Value → mm_M → Prop} {c : Int32} {f : Int32} {t : Int32} {w : Int32} (hX : g_X X) (hd : 2 ≤ d) (q1 : 0 ≤ c.toInt) (q2 : c.toInt ≤ 29) (q3 : 0 ≤ f.toInt) (q4 : f.toInt ≤ 7) (q5 : ¬ (M.2.1 81 (f.toInt).toNat).toInt = 3) (q6 : FA M) (h : ∀ (r : Int32) (M1 : mm_M), g_G M1 → FR md_0 M M1 → Q (some (.int r)) M1) : ∀ nn9 : Nat, (∀ (N : mm_M) (u1 : Value) (y5 : Int64) (x7 : Int32) (x8 : Int32) (x9 : Int32) (x10 : Int32) (u11 : Value) (u12 : Value), g_G N → FR md_0 M N → (0 ≤ x10.toInt) → (x10.toInt ≤ 24) → (¬ (N.2.1 81 (f.toInt).toNat).toInt = 3) → (FA N) → 24 - x10.toInt < (nn9 : Int) → mm_T X d 239 20 [.ref 77, u1, .int f, .int t, .int w, .long y5, .null, .int x7, .int x8, .int x9, .int x10, u11, u12] [] N Q) := by
  intro nn9
  induction nn9 with
  | zero =>
    intro N u1 y5 x7 x8 x9 x10 u11 u12 hG F0 g1 g2 g3 g4 hm
    exfalso; omega
  | succ nn9 ih =>
    intro N u1 y5 x7 x8 x9 x10 u11 u12 hG F0 g1 g2 g3 g4 hm
    refine to_i (pc := 20) rw_240_20 rfl (to_an (pc := 22) rw_240_22 rfl (s_gR (pc := 23) rw_240_23 hG rfl (v := 84) rfl (to_in (pc := 26) rw_240_26 rfl (s_ial (pc := 27) rw_240_27 hG rfl (n := 16) rfl rfl (A := f.toInt) rfl (by omega) (by omega) (lo := 0) (hi := 24) rfl rfl (fun v1 w_2 _ _ => ?_)))))
    have t_3 := congrArg Int32.toInt w_2
    have j_4 := FA_u g4 (f.toInt).toNat
    have s_5 := g_b hG (a := 81) (i := (f.toInt).toNat) (lo := 0) (hi := 3) rfl rfl
    refine b_cge (pc := 28) rw_240_28 (A := x10.toInt) (B := v1.toInt) rfl rfl (fun h6 => ?_) (fun h6 => ?_)
    · refine to_i (pc := 95) rw_240_95 rfl (b_ine (pc := 97) rw_240_97 (A := w.toInt) rfl (fun h7 => ?_) (fun h7 => ?_))
      · refine to_i (pc := 115) rw_240_115 rfl (to_c (pc := 117) rw_240_117 (x := (1 : Int32)) rfl rfl (b_cne (pc := 118) rw_240_118 (A := w.toInt) (B := 1) rfl rfl (fun h8 => ?_) (fun h8 => ?_)))
        · refine to_i (pc := 126) rw_240_126 rfl (to_r0 (pc := 128) rw_240_128 ?_)
          exact h x8 N hG F0 
        · refine to_i (pc := 121) rw_240_121 rfl (to_go (pc := 123) rw_240_123 (to_r0 (pc := 128) rw_240_128 ?_))
          exact h x7 N hG F0 
      · refine to_i (pc := 100) rw_240_100 rfl (to_c (pc := 102) rw_240_102 (x := (1 : Int32)) rfl rfl (b_cne (pc := 103) rw_240_103 (A := x8.toInt) (B := 1) rfl rfl (fun h9 => ?_) (fun h9 => ?_)))
        · refine to_c (pc := 111) rw_240_111 (x := (-1 : Int32)) rfl rfl (to_go (pc := 112) rw_240_112 (to_r0 (pc := 128) rw_240_128 ?_))
          have k_10 : (-1 : Int32).toInt = -1 := rfl
          exact h (-1 : Int32) N hG F0 
        · refine to_i (pc := 106) rw_240_106 rfl (to_go (pc := 108) rw_240_108 (to_r0 (pc := 128) rw_240_128 ?_))
          exact h x9 N hG F0 
    · refine to_an (pc := 31) rw_240_31 rfl (to_in (pc := 32) rw_240_32 rfl (to_i (pc := 33) rw_240_33 rfl (s_v (pc := 35) rw_240_35 (dp0 hd (by decide)) (ls0 := [.ref 77, .int f, .int x10]) rfl (Nat.le_of_ble_eq_true rfl) (Nat.le_of_ble_eq_true rfl) rfl (to_rc rfl rfl rfl (g_o hG rfl)) rfl (C_183 hX (dp1 hd (by decide)) hG (by omega) (by omega) (by omega) (by omega) (f := f) (v := x10) (fun r11 M14 hG13 F12 => ?_)))))
      have F15 := FR.c F0 F12 tg_29
      refine to_ls (pc := 38) rw_240_38 (ls2 := [.ref 77, u1, .int f, .int t, .int w, .long y5, .null, .int x7, .int x8, .int x9, .int x10, .long r11, .null]) rfl rfl (to_l (pc := 40) rw_240_40 rfl rfl rfl (to_l (pc := 42) rw_240_42 rfl rfl rfl (s_cl (pc := 44) rw_240_44 rfl (fun l16 => s_anyL (pc := 47) rw_240_47 (fun _ _ => rfl) (fun l17 => s_anyL (pc := 48) rw_240_48 (fun _ _ => rfl) (fun l18 => s_cl (pc := 49) rw_240_49 rfl (fun l19 => s_lcmp (pc := 50) rw_240_50 (fun v20 => b_ine (pc := 51) rw_240_51 (A := v20.toInt) rfl (fun h21 => ?_) (fun h21 => ?_)))))))))
      · refine s_inc (pc := 89) rw_240_89 (ls2 := fun v => [.ref 77, u1, .int f, .int t, .int w, .long y5, .null, .int x7, .int x8, .int x9, .int v, .long r11, .null]) rfl rfl (fun _ => rfl) (A := x10.toInt) (B := 1) rfl rfl (by omega) (fun v22 e23 => to_go (pc := 92) rw_240_92 ?_)
        have t_24 : (M14.2.1 81 (f.toInt).toNat).toInt = (N.2.1 81 (f.toInt).toNat).toInt := congrArg Int32.toInt (F_n F12 (show ¬ (81 < 0) by decide) rfl)
        have j_25 := (FA_f (tg_218 F12) g4)
        exact ih M14 (u1) y5 x7 x8 x9 v22 (.long r11) (.null) hG13 F15 (by omega) (by omega) (by omega) j_25 (by omega)
      · refine to_l (pc := 54) rw_240_54 rfl rfl rfl (to_l (pc := 56) rw_240_56 rfl rfl rfl (s_cl (pc := 58) rw_240_58 rfl (fun l26 => s_anyL (pc := 61) rw_240_61 (fun _ _ => rfl) (fun l27 => s_anyL (pc := 62) rw_240_62 (fun _ _ => rfl) (fun l28 => s_s (pc := 63) rw_240_63 (dp0 hd (by decide)) (ls0 := [.long l28, .null, .null, .null]) rfl (Nat.le_of_ble_eq_true rfl) (Nat.le_of_ble_eq_true rfl) rfl (to_rcs rfl rfl) rfl (C_151 hX (dp1 hd (by decide)) hG13 (x := l28) (fun r29 M34 hG31 F30 p_32 p_33 => ?_)))))))
        have F35 := FR.c F15 F30 tg_29
        refine to_in (pc := 66) rw_240_66 rfl (b_cle (pc := 67) rw_240_67 (A := r29.toInt) (B := t.toInt) rfl rfl (fun h36 => ?_) (fun h36 => ?_))
        · refine to_i (pc := 73) rw_240_73 rfl (to_c (pc := 75) rw_240_75 (x := (1 : Int32)) rfl rfl (to_i (pc := 76) rw_240_76 rfl (s_any (pc := 78) rw_240_78 (fun _ _ => rfl) (fun v37 => s_any (pc := 79) rw_240_79 (fun _ _ => rfl) (fun v38 => to_is (pc := 80) rw_240_80 (ls2 := [.ref 77, u1, .int f, .int t, .int w, .long y5, .null, .int v38, .int x8, .int x9, .int x10, .long r11, .null]) rfl rfl (to_i (pc := 82) rw_240_82 rfl (to_is (pc := 84) rw_240_84 (ls2 := [.ref 77, u1, .int f, .int t, .int w, .long y5, .null, .int v38, .int x8, .int x10, .int x10, .long r11, .null]) rfl rfl (s_incx (pc := 86) rw_240_86 (ls2 := fun v => [.ref 77, u1, .int f, .int t, .int w, .long y5, .null, .int v38, .int v, .int x10, .int x10, .long r11, .null]) rfl rfl (fun _ => rfl) (fun v39 => s_inc (pc := 89) rw_240_89 (ls2 := fun v => [.ref 77, u1, .int f, .int t, .int w, .long y5, .null, .int v38, .int v39, .int x10, .int v, .long r11, .null]) rfl rfl (fun _ => rfl) (A := x10.toInt) (B := 1) rfl rfl (by omega) (fun v41 e42 => to_go (pc := 92) rw_240_92 ?_))))))))))
          have t_43 : (M34.2.1 81 (f.toInt).toNat).toInt = (N.2.1 81 (f.toInt).toNat).toInt := congrArg Int32.toInt (F_n F30 (show ¬ (81 < 0) by decide) (F_n F12 (show ¬ (81 < 0) by decide) rfl))
          have j_44 := (FA_f (tg_218 F30) (FA_f (tg_218 F12) g4))
          exact ih M34 (u1) y5 v38 v39 x10 v41 (.long r11) (.null) hG31 F35 (by omega) (by omega) (by omega) j_44 (by omega)
        · refine to_go (pc := 70) rw_240_70 (s_inc (pc := 89) rw_240_89 (ls2 := fun v => [.ref 77, u1, .int f, .int t, .int w, .long y5, .null, .int x7, .int x8, .int x9, .int v, .long r11, .null]) rfl rfl (fun _ => rfl) (A := x10.toInt) (B := 1) rfl rfl (by omega) (fun v45 e46 => to_go (pc := 92) rw_240_92 ?_))
          have t_47 : (M34.2.1 81 (f.toInt).toNat).toInt = (N.2.1 81 (f.toInt).toNat).toInt := congrArg Int32.toInt (F_n F30 (show ¬ (81 < 0) by decide) (F_n F12 (show ¬ (81 < 0) by decide) rfl))
          have j_48 := (FA_f (tg_218 F30) (FA_f (tg_218 F12) g4))
          exact ih M34 (u1) y5 x7 x8 x9 v45 (.long r11) (.null) hG31 F35 (by omega) (by omega) (by omega) j_48 (by omega)
set_option maxRecDepth 4000 in
set_option maxHeartbeats 0 in
theorem C_240 {X : mm_X} {d : Nat} {M : mm_M} {Q : Option Value → mm_M → Prop} {c : Int32} {f : Int32} {t : Int32} {w : Int32} (hX : g_X X) (hd : 2 ≤ d) (hG : g_G M) (q1 : 0 ≤ c.toInt) (q2 : c.toInt ≤ 29) (q3 : 0 ≤ f.toInt) (q4 : f.toInt ≤ 7) (q5 : ¬ (M.2.1 81 (f.toInt).toNat).toInt = 3) (q6 : FA M) (h : ∀ (r : Int32) (M1 : mm_M), g_G M1 → FR md_0 M M1 → Q (some (.int r)) M1) : mm_T X d 239 0 [.ref 77, .int c, .int f, .int t, .int w, .null, .null, .null, .null, .null, .null, .null, .null] [] M Q := by
  have F0 : FR md_0 M M := FR.rf
  refine to_an (pc := 0) rw_240_0 rfl (to_in (pc := 1) rw_240_1 rfl (to_in (pc := 2) rw_240_2 rfl (s_v (pc := 3) rw_240_3 (dp0 hd (by decide)) (ls0 := [.ref 77, .int c, .int f]) rfl (Nat.le_of_ble_eq_true rfl) (Nat.le_of_ble_eq_true rfl) rfl (to_rc rfl rfl rfl (g_o hG rfl)) rfl (C_232 hX (dp1 hd (by decide)) hG (by omega) (by omega) (by omega) (by omega) (c := c) (f := f) (fun r49 M52 hG51 F50 => ?_)))))
  have F53 := FR.c F0 F50 tg_29
  refine to_ls (pc := 6) rw_240_6 (ls2 := [.ref 77, .int c, .int f, .int t, .int w, .long r49, .null, .null, .null, .null, .null, .null, .null]) rfl rfl (to_c (pc := 8) rw_240_8 (x := (0 : Int32)) rfl rfl (to_is (pc := 9) rw_240_9 (ls2 := [.ref 77, .int c, .int f, .int t, .int w, .long r49, .null, .int (0 : Int32), .null, .null, .null, .null, .null]) rfl rfl (to_c (pc := 11) rw_240_11 (x := (0 : Int32)) rfl rfl (to_is (pc := 12) rw_240_12 (ls2 := [.ref 77, .int c, .int f, .int t, .int w, .long r49, .null, .int (0 : Int32), .int (0 : Int32), .null, .null, .null, .null]) rfl rfl (to_c (pc := 14) rw_240_14 (x := (-1 : Int32)) rfl rfl (to_is (pc := 15) rw_240_15 (ls2 := [.ref 77, .int c, .int f, .int t, .int w, .long r49, .null, .int (0 : Int32), .int (0 : Int32), .int (-1 : Int32), .null, .null, .null]) rfl rfl (to_c (pc := 17) rw_240_17 (x := (0 : Int32)) rfl rfl (to_is (pc := 18) rw_240_18 (ls2 := [.ref 77, .int c, .int f, .int t, .int w, .long r49, .null, .int (0 : Int32), .int (0 : Int32), .int (-1 : Int32), .int (0 : Int32), .null, .null]) rfl rfl ?_))))))))
  have k_54 : (0 : Int32).toInt = 0 := rfl
  have k_55 : (-1 : Int32).toInt = -1 := rfl
  have t_56 : (M52.2.1 81 (f.toInt).toNat).toInt = (M.2.1 81 (f.toInt).toNat).toInt := congrArg Int32.toInt (F_n F50 (show ¬ (81 < 0) by decide) rfl)
  have j_57 := (FA_f (tg_218 F50) q6)
  exact (T_240_0 (c := c) (f := f) (t := t) (w := w) hX hd q1 q2 q3 q4 q5 q6 h ((24 - (0 : Int32).toInt).toNat + 1)) M52 (.int c) r49 (0 : Int32) (0 : Int32) (-1 : Int32) (0 : Int32) (.null) (.null) hG51 F53 (by omega) (by omega) (by omega) j_57 (by omega)
set_option maxRecDepth 4000 in
set_option maxHeartbeats 0 in
theorem C_238 {X : mm_X} {d : Nat} {M : mm_M} {Q : Option Value → mm_M → Prop} {n : Int32} {c : Int32} {f : Int32} {t : Int32} {w : Int32} (hX : g_X X) (hd : 3 ≤ d) (hG : g_G M) (q1 : NJ M) (q2 : FA M) (h : ∀ (r : Int32) (M1 : mm_M), g_G M1 → FR md_me M M1 → Q (some (.int r)) M1) : mm_T X d 237 0 [.ref 77, .int n, .int c, .int f, .int t, .int w] [] M Q := by
  have F0 : FR md_me M M := FR.rf
  refine to_an (pc := 0) rw_238_0 rfl (to_c (pc := 1) rw_238_1 (x := (0 : Int32)) rfl rfl (s_pI (pc := 2) rw_238_2 hG rfl (fun M2 W1 => ?_)))
  have hG3 := g_wf hG W1 rfl rfl (by decide)
  have F4 := FR.w F0 W1 (show 77 = 77 ∧ 2 = 2 ∨ 94 ≤ 77 ∧ 77 ≤ 98 ∨ 77 = 119 by decide)
  refine to_an (pc := 5) rw_238_5 rfl (to_in (pc := 6) rw_238_6 rfl (s_v (pc := 7) rw_238_7 (dp0 hd (by decide)) (ls0 := [.ref 77, .int n]) rfl (Nat.le_of_ble_eq_true rfl) (Nat.le_of_ble_eq_true rfl) rfl (to_rc rfl rfl rfl (g_o hG3 rfl)) rfl (to_in (pc := 0) rw_186_0 rfl (b_ilt (pc := 1) rw_186_1 (A := n.toInt) rfl (fun h5 => ?_) (fun h5 => ?_)))))
  · refine to_c (pc := 16) rw_186_16 (x := (0 : Int32)) rfl rfl (s_r1 (pc := 17) rw_186_17 (A := 0) rfl (by decide) (b_ieq_t (pc := 10) rw_238_10 (A := 0) rfl (by decide) (to_c (pc := 50) rw_238_50 (x := (-2 : Int32)) rfl rfl (to_r0 (pc := 52) rw_238_52 ?_))))
    have k_6 : (-2 : Int32).toInt = -2 := rfl
    exact h (-2 : Int32) M2 hG3 F4 
  · refine to_in (pc := 4) rw_186_4 rfl (to_an (pc := 5) rw_186_5 rfl ?_)
    have c_7 : M2.2.1 77 29 = (M.2.1 77 29) := (W_n W1 (by decide) rfl)
    have b_8 := g_b hG (a := 77) (i := 29) (lo := 0) (hi := 150) rfl rfl
    refine tt_gI (pc := 6) rw_186_6 (g_o hG3 rfl) (v := (M.2.1 77 29)) c_7 (b_cgt (pc := 9) rw_186_9 (A := n.toInt) (B := (M.2.1 77 29).toInt) rfl rfl (fun h9 => ?_) (fun h9 => ?_))
    · refine to_c (pc := 16) rw_186_16 (x := (0 : Int32)) rfl rfl (s_r1 (pc := 17) rw_186_17 (A := 0) rfl (by decide) (b_ieq_t (pc := 10) rw_238_10 (A := 0) rfl (by decide) (to_c (pc := 50) rw_238_50 (x := (-2 : Int32)) rfl rfl (to_r0 (pc := 52) rw_238_52 ?_))))
      have k_10 : (-2 : Int32).toInt = -2 := rfl
      exact h (-2 : Int32) M2 hG3 F4 
    · refine to_c (pc := 12) rw_186_12 (x := (1 : Int32)) rfl rfl (to_go (pc := 13) rw_186_13 (s_r1 (pc := 17) rw_186_17 (A := 1) rfl (by decide) (b_ieq_f (pc := 10) rw_238_10 (A := 1) rfl (by decide) (to_an (pc := 13) rw_238_13 rfl (to_in (pc := 14) rw_238_14 rfl (s_v (pc := 15) rw_238_15 (dp0 hd (by decide)) (ls0 := [.ref 77, .int c]) rfl (Nat.le_of_ble_eq_true rfl) (Nat.le_of_ble_eq_true rfl) rfl (to_rc rfl rfl rfl (g_o hG3 rfl)) rfl (to_in (pc := 0) rw_187_0 rfl (b_ilt (pc := 1) rw_187_1 (A := c.toInt) rfl (fun h11 => ?_) (fun h11 => ?_)))))))))
      · refine to_c (pc := 16) rw_187_16 (x := (0 : Int32)) rfl rfl (s_r1 (pc := 17) rw_187_17 (A := 0) rfl (by decide) (b_ieq_t (pc := 18) rw_238_18 (A := 0) rfl (by decide) (to_c (pc := 50) rw_238_50 (x := (-2 : Int32)) rfl rfl (to_r0 (pc := 52) rw_238_52 ?_))))
        have k_12 : (-2 : Int32).toInt = -2 := rfl
        exact h (-2 : Int32) M2 hG3 F4 
      · refine to_in (pc := 4) rw_187_4 rfl (to_an (pc := 5) rw_187_5 rfl ?_)
        have c_13 : M2.2.1 77 28 = (M.2.1 77 28) := (W_n W1 (by decide) rfl)
        have b_14 := g_b hG (a := 77) (i := 28) (lo := 0) (hi := 30) rfl rfl
        refine tt_gI (pc := 6) rw_187_6 (g_o hG3 rfl) (v := (M.2.1 77 28)) c_13 (b_cge (pc := 9) rw_187_9 (A := c.toInt) (B := (M.2.1 77 28).toInt) rfl rfl (fun h15 => ?_) (fun h15 => ?_))
        · refine to_c (pc := 16) rw_187_16 (x := (0 : Int32)) rfl rfl (s_r1 (pc := 17) rw_187_17 (A := 0) rfl (by decide) (b_ieq_t (pc := 18) rw_238_18 (A := 0) rfl (by decide) (to_c (pc := 50) rw_238_50 (x := (-2 : Int32)) rfl rfl (to_r0 (pc := 52) rw_238_52 ?_))))
          have k_16 : (-2 : Int32).toInt = -2 := rfl
          exact h (-2 : Int32) M2 hG3 F4 
        · refine to_c (pc := 12) rw_187_12 (x := (1 : Int32)) rfl rfl (to_go (pc := 13) rw_187_13 (s_r1 (pc := 17) rw_187_17 (A := 1) rfl (by decide) (b_ieq_f (pc := 18) rw_238_18 (A := 1) rfl (by decide) (to_an (pc := 21) rw_238_21 rfl (to_in (pc := 22) rw_238_22 rfl (s_v (pc := 23) rw_238_23 (dp0 hd (by decide)) (ls0 := [.ref 77, .int f]) rfl (Nat.le_of_ble_eq_true rfl) (Nat.le_of_ble_eq_true rfl) rfl (to_rc rfl rfl rfl (g_o hG3 rfl)) rfl (to_in (pc := 0) rw_178_0 rfl (b_ilt (pc := 1) rw_178_1 (A := f.toInt) rfl (fun h17 => ?_) (fun h17 => ?_)))))))))
          · refine to_c (pc := 16) rw_178_16 (x := (0 : Int32)) rfl rfl (s_r1 (pc := 17) rw_178_17 (A := 0) rfl (by decide) (b_ieq_t (pc := 26) rw_238_26 (A := 0) rfl (by decide) (to_c (pc := 50) rw_238_50 (x := (-2 : Int32)) rfl rfl (to_r0 (pc := 52) rw_238_52 ?_))))
            have k_18 : (-2 : Int32).toInt = -2 := rfl
            exact h (-2 : Int32) M2 hG3 F4 
          · refine to_in (pc := 4) rw_178_4 rfl (to_an (pc := 5) rw_178_5 rfl ?_)
            have c_19 : M2.2.1 77 12 = (M.2.1 77 12) := (W_n W1 (by decide) rfl)
            have b_20 := g_b hG (a := 77) (i := 12) (lo := 0) (hi := 8) rfl rfl
            refine tt_gI (pc := 6) rw_178_6 (g_o hG3 rfl) (v := (M.2.1 77 12)) c_19 (b_cge (pc := 9) rw_178_9 (A := f.toInt) (B := (M.2.1 77 12).toInt) rfl rfl (fun h21 => ?_) (fun h21 => ?_))
            · refine to_c (pc := 16) rw_178_16 (x := (0 : Int32)) rfl rfl (s_r1 (pc := 17) rw_178_17 (A := 0) rfl (by decide) (b_ieq_t (pc := 26) rw_238_26 (A := 0) rfl (by decide) (to_c (pc := 50) rw_238_50 (x := (-2 : Int32)) rfl rfl (to_r0 (pc := 52) rw_238_52 ?_))))
              have k_22 : (-2 : Int32).toInt = -2 := rfl
              exact h (-2 : Int32) M2 hG3 F4 
            · refine to_c (pc := 12) rw_178_12 (x := (1 : Int32)) rfl rfl (to_go (pc := 13) rw_178_13 (s_r1 (pc := 17) rw_178_17 (A := 1) rfl (by decide) (b_ieq_f (pc := 26) rw_238_26 (A := 1) rfl (by decide) (to_i (pc := 29) rw_238_29 rfl (to_c (pc := 31) rw_238_31 (x := (0 : Int32)) rfl rfl (to_c (pc := 32) rw_238_32 (x := (9 : Int32)) rfl rfl (s_s (pc := 34) rw_238_34 (dp0 hd (by decide)) (ls0 := [.int t, .int (0 : Int32), .int (9 : Int32)]) rfl (Nat.le_of_ble_eq_true rfl) (Nat.le_of_ble_eq_true rfl) rfl (to_rcs rfl rfl) rfl (to_in (pc := 0) rw_149_0 rfl (to_in (pc := 1) rw_149_1 rfl (b_clt (pc := 2) rw_149_2 (A := t.toInt) (B := 0) rfl rfl (fun h23 => ?_) (fun h23 => ?_)))))))))))
              · refine to_c (pc := 14) rw_149_14 (x := (0 : Int32)) rfl rfl (s_r1 (pc := 15) rw_149_15 (A := 0) rfl (by decide) (b_ieq_t (pc := 37) rw_238_37 (A := 0) rfl (by decide) (to_c (pc := 50) rw_238_50 (x := (-2 : Int32)) rfl rfl (to_r0 (pc := 52) rw_238_52 ?_))))
                have k_24 : (-2 : Int32).toInt = -2 := rfl
                exact h (-2 : Int32) M2 hG3 F4 
              · refine to_in (pc := 5) rw_149_5 rfl (to_in (pc := 6) rw_149_6 rfl (b_cgt (pc := 7) rw_149_7 (A := t.toInt) (B := 9) rfl rfl (fun h25 => ?_) (fun h25 => ?_)))
                · refine to_c (pc := 14) rw_149_14 (x := (0 : Int32)) rfl rfl (s_r1 (pc := 15) rw_149_15 (A := 0) rfl (by decide) (b_ieq_t (pc := 37) rw_238_37 (A := 0) rfl (by decide) (to_c (pc := 50) rw_238_50 (x := (-2 : Int32)) rfl rfl (to_r0 (pc := 52) rw_238_52 ?_))))
                  have k_26 : (-2 : Int32).toInt = -2 := rfl
                  exact h (-2 : Int32) M2 hG3 F4 
                · refine to_c (pc := 10) rw_149_10 (x := (1 : Int32)) rfl rfl (to_go (pc := 11) rw_149_11 (s_r1 (pc := 15) rw_149_15 (A := 1) rfl (by decide) (b_ieq_f (pc := 37) rw_238_37 (A := 1) rfl (by decide) (to_i (pc := 40) rw_238_40 rfl (to_c (pc := 42) rw_238_42 (x := (0 : Int32)) rfl rfl (to_c (pc := 43) rw_238_43 (x := (2 : Int32)) rfl rfl (s_s (pc := 44) rw_238_44 (dp0 hd (by decide)) (ls0 := [.int w, .int (0 : Int32), .int (2 : Int32)]) rfl (Nat.le_of_ble_eq_true rfl) (Nat.le_of_ble_eq_true rfl) rfl (to_rcs rfl rfl) rfl (to_in (pc := 0) rw_149_0 rfl (to_in (pc := 1) rw_149_1 rfl (b_clt (pc := 2) rw_149_2 (A := w.toInt) (B := 0) rfl rfl (fun h27 => ?_) (fun h27 => ?_)))))))))))
                  · refine to_c (pc := 14) rw_149_14 (x := (0 : Int32)) rfl rfl (s_r1 (pc := 15) rw_149_15 (A := 0) rfl (by decide) (b_ine_f (pc := 47) rw_238_47 (A := 0) rfl (by decide) (to_c (pc := 50) rw_238_50 (x := (-2 : Int32)) rfl rfl (to_r0 (pc := 52) rw_238_52 ?_))))
                    have k_28 : (-2 : Int32).toInt = -2 := rfl
                    exact h (-2 : Int32) M2 hG3 F4 
                  · refine to_in (pc := 5) rw_149_5 rfl (to_in (pc := 6) rw_149_6 rfl (b_cgt (pc := 7) rw_149_7 (A := w.toInt) (B := 2) rfl rfl (fun h29 => ?_) (fun h29 => ?_)))
                    · refine to_c (pc := 14) rw_149_14 (x := (0 : Int32)) rfl rfl (s_r1 (pc := 15) rw_149_15 (A := 0) rfl (by decide) (b_ine_f (pc := 47) rw_238_47 (A := 0) rfl (by decide) (to_c (pc := 50) rw_238_50 (x := (-2 : Int32)) rfl rfl (to_r0 (pc := 52) rw_238_52 ?_))))
                      have k_30 : (-2 : Int32).toInt = -2 := rfl
                      exact h (-2 : Int32) M2 hG3 F4 
                    · refine to_c (pc := 10) rw_149_10 (x := (1 : Int32)) rfl rfl (to_go (pc := 11) rw_149_11 (s_r1 (pc := 15) rw_149_15 (A := 1) rfl (by decide) (b_ine_t (pc := 47) rw_238_47 (A := 1) rfl (by decide) (to_an (pc := 53) rw_238_53 rfl (to_in (pc := 54) rw_238_54 rfl (s_v (pc := 55) rw_238_55 (dp0 hd (by decide)) (ls0 := [.ref 77, .int n, .null, .null]) rfl (Nat.le_of_ble_eq_true rfl) (Nat.le_of_ble_eq_true rfl) rfl (to_rc rfl rfl rfl (g_o hG3 rfl)) rfl ?_))))))
                      have t_31 : (M2.2.1 77 29).toInt = (M.2.1 77 29).toInt := congrArg Int32.toInt c_7
                      have j_32 := (NJ_f (fun a i z => W_n W1 (by /-r77,2-/ omega) rfl) q1)
                      refine C_189 hX (dp1 hd (by decide)) hG3 (by omega) (by omega) (by omega) j_32 (n := n) (fun M35 hG34 F33 => ?_)
                      have F36 := FR.c F4 F33 tg_351
                      refine to_an (pc := 58) rw_238_58 rfl (s_gR (pc := 59) rw_238_59 hG34 rfl (v := 81) rfl (to_in (pc := 62) rw_238_62 rfl (s_ial (pc := 63) rw_238_63 hG34 rfl (n := 16) rfl rfl (A := f.toInt) rfl (by omega) (by omega) (lo := 0) (hi := 3) rfl rfl (fun v37 w_38 _ _ => ?_))))
                      have t_39 := congrArg Int32.toInt w_38
                      refine to_c (pc := 64) rw_238_64 (x := (3 : Int32)) rfl rfl (b_cne (pc := 65) rw_238_65 (A := v37.toInt) (B := 3) rfl rfl (fun h40 => ?_) (fun h40 => ?_))
                      · refine to_an (pc := 81) rw_238_81 rfl (to_in (pc := 82) rw_238_82 rfl (to_in (pc := 83) rw_238_83 rfl (to_i (pc := 84) rw_238_84 rfl (to_i (pc := 86) rw_238_86 rfl (s_v (pc := 88) rw_238_88 (dp0 hd (by decide)) (ls0 := [.ref 77, .int c, .int f, .int t, .int w, .null, .null, .null, .null, .null, .null, .null, .null]) rfl (Nat.le_of_ble_eq_true rfl) (Nat.le_of_ble_eq_true rfl) rfl (to_rc rfl rfl rfl (g_o hG34 rfl)) rfl ?_)))))
                        have t_41 : (M35.2.1 81 (f.toInt).toNat).toInt = (M.2.1 81 (f.toInt).toNat).toInt := congrArg Int32.toInt (F_n F33 (show ¬ (94 ≤ 81 ∧ 81 ≤ 98) by decide) (W_n W1 (by omega) rfl))
                        have j_42 := (FA_f (tg_346 F33) (FA_f (fun a i z => W_n W1 (tg_94 a i z) rfl) q2))
                        refine C_240 hX (dp1 hd (by decide)) hG34 (by omega) (by omega) (by omega) (by omega) (by omega) j_42 (c := c) (f := f) (t := t) (w := w) (fun r43 M46 hG45 F44 => ?_)
                        have F47 := FR.c F36 F44 tg_352
                        refine to_r0 (pc := 91) rw_238_91 ?_
                        exact h r43 M46 hG45 F47 
                      · refine to_an (pc := 68) rw_238_68 rfl (to_in (pc := 69) rw_238_69 rfl (to_in (pc := 70) rw_238_70 rfl (to_i (pc := 71) rw_238_71 rfl (to_i (pc := 73) rw_238_73 rfl (s_v (pc := 75) rw_238_75 (dp0 hd (by decide)) (ls0 := [.ref 77, .int c, .int f, .int t, .int w, .null, .null, .null, .null, .null, .null, .null, .null, .null, .null, .null]) rfl (Nat.le_of_ble_eq_true rfl) (Nat.le_of_ble_eq_true rfl) rfl (to_rc rfl rfl rfl (g_o hG34 rfl)) rfl (C_239 hX (dp1 hd (by decide)) hG34 (by omega) (by omega) (by omega) (by omega) (c := c) (f := f) (t := t) (w := w) (fun r48 M51 hG50 F49 => ?_)))))))
                        have F52 := FR.c F36 F49 tg_353
                        refine to_go (pc := 78) rw_238_78 (to_r0 (pc := 91) rw_238_91 ?_)
                        exact h r48 M51 hG50 F52 
set_option maxRecDepth 4000 in
set_option maxHeartbeats 0 in
theorem T_242_0 {X : mm_X} {d : Nat} {M : mm_M} {Q : Option Value → mm_M → Prop} {p : Int32} {f : Int32} (hX : g_X X) (hd : 3 ≤ d) (q1 : NJ M) (h : ∀ (r : Int32) (M1 : mm_M), g_G M1 → FR md_be M M1 → Q (some (.int r)) M1) : ∀ nn9 : Nat, (∀ (N : mm_M) (x3 : Int32) (x4 : Int32) (u5 : Value), g_G N → FR md_be M N → (0 ≤ p.toInt) → (p.toInt ≤ 5) → (0 ≤ f.toInt) → (f.toInt ≤ 7) → (0 ≤ x4.toInt) → (x4.toInt ≤ 30) → (30 - x4.toInt) * 100 + 50 < (nn9 : Int) → mm_T X d 241 35 [.ref 77, .int p, .int f, .int x3, .int x4, u5] [] N Q) ∧ (∀ (N : mm_M) (x3 : Int32) (x4 : Int32) (x5 : Int32), g_G N → FR md_be M N → (0 ≤ p.toInt) → (p.toInt ≤ 5) → (0 ≤ f.toInt) → (f.toInt ≤ 7) → (0 ≤ x4.toInt) → (x4.toInt ≤ 29) → (0 ≤ x5.toInt) → (x5.toInt ≤ 30) → (x5.toInt ≤ x4.toInt) → (30 - x4.toInt) * 100 + 30 - x5.toInt < (nn9 : Int) → mm_T X d 241 57 [.ref 77, .int p, .int f, .int x3, .int x4, .int x5] [] N Q) := by
  intro nn9
  induction nn9 with
  | zero =>
    refine ⟨?_, ?_⟩
    · intro N x3 x4 u5 hG F0 g1 g2 g3 g4 g5 g6 hm
      exfalso; omega
    · intro N x3 x4 x5 hG F0 g1 g2 g3 g4 g5 g6 g7 g8 g9 hm
      exfalso; omega
  | succ nn9 ih =>
    refine ⟨?_, ?_⟩
    · intro N x3 x4 u5 hG F0 g1 g2 g3 g4 g5 g6 hm
      refine to_i (pc := 35) rw_242_35 rfl (to_an (pc := 37) rw_242_37 rfl (s_gR (pc := 38) rw_242_38 hG rfl (v := 100) rfl (to_in (pc := 41) rw_242_41 rfl (s_ial (pc := 42) rw_242_42 hG rfl (n := 6) rfl rfl (A := p.toInt) rfl (by omega) (by omega) (lo := 0) (hi := 30) rfl rfl (fun v1 w_2 _ _ => b_cge (pc := 43) rw_242_43 (A := x4.toInt) (B := v1.toInt) rfl rfl (fun h3 => ?_) (fun h3 => ?_))))))
      · refine to_an (pc := 171) rw_242_171 rfl (s_gR (pc := 172) rw_242_172 hG rfl (v := 100) rfl (to_in (pc := 175) rw_242_175 rfl (s_ialk (pc := 176) rw_242_176 hG rfl (n := 6) rfl rfl (A := p.toInt) rfl (by omega) (by omega) (v := v1) w_2 (to_in (pc := 177) rw_242_177 rfl (s_any (pc := 178) rw_242_178 (fun _ _ => rfl) (fun v6 => to_r0 (pc := 179) rw_242_179 ?_))))))
        exact h v6 N hG F0 
      · refine to_an (pc := 46) rw_242_46 rfl (s_gR (pc := 47) rw_242_47 hG rfl (v := 120) rfl (to_i (pc := 50) rw_242_50 rfl (to_c (pc := 52) rw_242_52 (x := (1 : Int32)) rfl rfl (s_ias (pc := 53) rw_242_53 hG rfl (n := 30) rfl (A := x4.toInt) rfl (by omega) (by omega) (fun M8 W7 => ?_)))))
        have hG9 := g_wf hG W7 rfl rfl (by decide)
        have F10 := FR.w F0 W7 (show 120 = 77 ∧ (x4.toInt).toNat = 2 ∨ 94 ≤ 120 ∧ 120 ≤ 98 ∨ 120 = 120 by omega)
        refine to_c (pc := 54) rw_242_54 (x := (0 : Int32)) rfl rfl (to_is (pc := 55) rw_242_55 (ls2 := [.ref 77, .int p, .int f, .int x3, .int x4, .int (0 : Int32)]) rfl rfl ?_)
        have k_11 : (0 : Int32).toInt = 0 := rfl
        exact ih.2 M8 x3 x4 (0 : Int32) hG9 F10 (by omega) (by omega) (by omega) (by omega) (by omega) (by omega) (by omega) (by omega) (by omega) (by omega)
    · intro N x3 x4 x5 hG F0 g1 g2 g3 g4 g5 g6 g7 g8 g9 hm
      refine to_i (pc := 57) rw_242_57 rfl (to_i (pc := 59) rw_242_59 rfl (b_cge (pc := 61) rw_242_61 (A := x5.toInt) (B := x4.toInt) rfl rfl (fun h12 => ?_) (fun h12 => ?_)))
      · refine to_an (pc := 142) rw_242_142 rfl (s_gR (pc := 143) rw_242_143 hG rfl (v := 120) rfl (to_i (pc := 146) rw_242_146 rfl (s_ial (pc := 148) rw_242_148 hG rfl (n := 30) rfl rfl (A := x4.toInt) rfl (by omega) (by omega) (lo := -2147483648) (hi := 2147483647) rfl rfl (fun v13 w_14 _ _ => to_in (pc := 149) rw_242_149 rfl (b_cle (pc := 150) rw_242_150 (A := v13.toInt) (B := x3.toInt) rfl rfl (fun h15 => ?_) (fun h15 => ?_))))))
        · refine to_in (pc := 163) rw_242_163 rfl (to_isn (pc := 164) rw_242_164 (ls2 := [.ref 77, .int p, .int f, .int x3, .int x4, .int x5]) rfl rfl (s_inc (pc := 165) rw_242_165 (ls2 := fun v => [.ref 77, .int p, .int f, .int x3, .int v, .int x5]) rfl rfl (fun _ => rfl) (A := x4.toInt) (B := 1) rfl rfl (by omega) (fun v16 e17 => to_go (pc := 168) rw_242_168 ?_)))
          exact ih.1 N x3 v16 (.int x5) hG F0 (by omega) (by omega) (by omega) (by omega) (by omega) (by omega) (by omega)
        · refine to_an (pc := 153) rw_242_153 rfl (s_gR (pc := 154) rw_242_154 hG rfl (v := 120) rfl (to_i (pc := 157) rw_242_157 rfl (s_ialk (pc := 159) rw_242_159 hG rfl (n := 30) rfl rfl (A := x4.toInt) rfl (by omega) (by omega) (v := v13) w_14 (to_go (pc := 160) rw_242_160 (to_isn (pc := 164) rw_242_164 (ls2 := [.ref 77, .int p, .int f, .int v13, .int x4, .int x5]) rfl rfl (s_inc (pc := 165) rw_242_165 (ls2 := fun v => [.ref 77, .int p, .int f, .int v13, .int v, .int x5]) rfl rfl (fun _ => rfl) (A := x4.toInt) (B := 1) rfl rfl (by omega) (fun v20 e21 => to_go (pc := 168) rw_242_168 ?_)))))))
          exact ih.1 N v13 v20 (.int x5) hG F0 (by omega) (by omega) (by omega) (by omega) (by omega) (by omega) (by omega)
      · refine to_an (pc := 64) rw_242_64 rfl (to_an (pc := 65) rw_242_65 rfl (s_gR (pc := 66) rw_242_66 hG rfl (v := 99) rfl (to_c (pc := 69) rw_242_69 (x := (30 : Int32)) rfl rfl (to_in (pc := 71) rw_242_71 rfl (s_mul (pc := 72) rw_242_72 (A := 30) (B := p.toInt) rfl rfl (by omega) (fun v22 e23 => to_i (pc := 73) rw_242_73 rfl (s_add (pc := 75) rw_242_75 (A := v22.toInt) (B := x5.toInt) rfl rfl (by omega) (fun v24 e25 => s_ial (pc := 76) rw_242_76 hG rfl (n := 180) rfl rfl (A := v24.toInt) rfl (by omega) (by omega) (lo := 0) (hi := 29) rfl rfl (fun v26 w_27 _ _ => to_in (pc := 77) rw_242_77 rfl (s_v (pc := 78) rw_242_78 (dp0 hd (by decide)) (ls0 := [.ref 77, .int v26, .int f]) rfl (Nat.le_of_ble_eq_true rfl) (Nat.le_of_ble_eq_true rfl) rfl (to_rc rfl rfl rfl (g_o hG rfl)) rfl (to_an (pc := 0) rw_241_0 rfl ?_)))))))))))
        refine s_gR (pc := 1) rw_241_1 hG rfl (v := 97) rfl (to_c (pc := 4) rw_241_4 (x := (8 : Int32)) rfl rfl (to_in (pc := 6) rw_241_6 rfl (s_mul (pc := 7) rw_241_7 (A := 8) (B := v26.toInt) rfl rfl (by omega) (fun v28 e29 => to_in (pc := 8) rw_241_8 rfl (s_add (pc := 9) rw_241_9 (A := v28.toInt) (B := f.toInt) rfl rfl (by omega) (fun v30 e31 => s_ial (pc := 10) rw_241_10 hG rfl (n := 240) rfl rfl (A := v30.toInt) rfl (by omega) (by omega) (lo := -2147483648) (hi := 2147483647) rfl rfl (fun v32 w_33 _ _ => to_r0 (pc := 11) rw_241_11 (to_an (pc := 81) rw_242_81 rfl (to_an (pc := 82) rw_242_82 rfl (s_gR (pc := 83) rw_242_83 hG rfl (v := 99) rfl (to_c (pc := 86) rw_242_86 (x := (30 : Int32)) rfl rfl ?_)))))))))))
        refine to_in (pc := 88) rw_242_88 rfl (s_mul (pc := 89) rw_242_89 (A := 30) (B := p.toInt) rfl rfl (by omega) (fun v34 e35 => to_i (pc := 90) rw_242_90 rfl (s_add (pc := 92) rw_242_92 (A := v34.toInt) (B := x4.toInt) rfl rfl (by omega) (fun v36 e37 => s_ial (pc := 93) rw_242_93 hG rfl (n := 180) rfl rfl (A := v36.toInt) rfl (by omega) (by omega) (lo := 0) (hi := 29) rfl rfl (fun v38 w_39 _ _ => to_in (pc := 94) rw_242_94 rfl (s_v (pc := 95) rw_242_95 (dp0 hd (by decide)) (ls0 := [.ref 77, .int v38, .int f]) rfl (Nat.le_of_ble_eq_true rfl) (Nat.le_of_ble_eq_true rfl) rfl (to_rc rfl rfl rfl (g_o hG rfl)) rfl (to_an (pc := 0) rw_241_0 rfl (s_gR (pc := 1) rw_241_1 hG rfl (v := 97) rfl (to_c (pc := 4) rw_241_4 (x := (8 : Int32)) rfl rfl (to_in (pc := 6) rw_241_6 rfl (s_mul (pc := 7) rw_241_7 (A := 8) (B := v38.toInt) rfl rfl (by omega) (fun v40 e41 => ?_))))))))))))
        refine to_in (pc := 8) rw_241_8 rfl (s_add (pc := 9) rw_241_9 (A := v40.toInt) (B := f.toInt) rfl rfl (by omega) (fun v42 e43 => s_ial (pc := 10) rw_241_10 hG rfl (n := 240) rfl rfl (A := v42.toInt) rfl (by omega) (by omega) (lo := -2147483648) (hi := 2147483647) rfl rfl (fun v44 w_45 _ _ => to_r0 (pc := 11) rw_241_11 (b_cgt (pc := 98) rw_242_98 (A := v32.toInt) (B := v44.toInt) rfl rfl (fun h46 => ?_) (fun h46 => ?_)))))
        · refine s_inc (pc := 136) rw_242_136 (ls2 := fun v => [.ref 77, .int p, .int f, .int x3, .int x4, .int v]) rfl rfl (fun _ => rfl) (A := x5.toInt) (B := 1) rfl rfl (by omega) (fun v47 e48 => to_go (pc := 139) rw_242_139 ?_)
          exact ih.2 N x3 x4 v47 hG F0 (by omega) (by omega) (by omega) (by omega) (by omega) (by omega) (by omega) (by omega) (by omega) (by omega)
        · refine to_an (pc := 101) rw_242_101 rfl (s_gR (pc := 102) rw_242_102 hG rfl (v := 120) rfl (to_i (pc := 105) rw_242_105 rfl (s_ial (pc := 107) rw_242_107 hG rfl (n := 30) rfl rfl (A := x5.toInt) rfl (by omega) (by omega) (lo := -2147483648) (hi := 2147483647) rfl rfl (fun v49 w_50 _ _ => to_c (pc := 108) rw_242_108 (x := (1 : Int32)) rfl rfl (s_any (pc := 109) rw_242_109 (fun _ _ => rfl) (fun v51 => to_an (pc := 110) rw_242_110 rfl (s_gR (pc := 111) rw_242_111 hG rfl (v := 120) rfl (to_i (pc := 114) rw_242_114 rfl (s_ial (pc := 116) rw_242_116 hG rfl (n := 30) rfl rfl (A := x4.toInt) rfl (by omega) (by omega) (lo := -2147483648) (hi := 2147483647) rfl rfl (fun v52 w_53 _ _ => b_cle (pc := 117) rw_242_117 (A := v51.toInt) (B := v52.toInt) rfl rfl (fun h54 => ?_) (fun h54 => ?_)))))))))))
          · refine s_inc (pc := 136) rw_242_136 (ls2 := fun v => [.ref 77, .int p, .int f, .int x3, .int x4, .int v]) rfl rfl (fun _ => rfl) (A := x5.toInt) (B := 1) rfl rfl (by omega) (fun v55 e56 => to_go (pc := 139) rw_242_139 ?_)
            exact ih.2 N x3 x4 v55 hG F0 (by omega) (by omega) (by omega) (by omega) (by omega) (by omega) (by omega) (by omega) (by omega) (by omega)
          · refine to_an (pc := 120) rw_242_120 rfl (s_gR (pc := 121) rw_242_121 hG rfl (v := 120) rfl (to_i (pc := 124) rw_242_124 rfl (to_an (pc := 126) rw_242_126 rfl (s_gR (pc := 127) rw_242_127 hG rfl (v := 120) rfl (to_i (pc := 130) rw_242_130 rfl (s_ialk (pc := 132) rw_242_132 hG rfl (n := 30) rfl rfl (A := x5.toInt) rfl (by omega) (by omega) (v := v49) w_50 (to_c (pc := 133) rw_242_133 (x := (1 : Int32)) rfl rfl (s_any (pc := 134) rw_242_134 (fun _ _ => rfl) (fun v59 => s_ias (pc := 135) rw_242_135 hG rfl (n := 30) rfl (A := x4.toInt) rfl (by omega) (by omega) (fun M61 W60 => ?_))))))))))
            have hG62 := g_wf hG W60 rfl rfl (by decide)
            have F63 := FR.w F0 W60 (show 120 = 77 ∧ (x4.toInt).toNat = 2 ∨ 94 ≤ 120 ∧ 120 ≤ 98 ∨ 120 = 120 by omega)
            refine s_inc (pc := 136) rw_242_136 (ls2 := fun v => [.ref 77, .int p, .int f, .int x3, .int x4, .int v]) rfl rfl (fun _ => rfl) (A := x5.toInt) (B := 1) rfl rfl (by omega) (fun v64 e65 => to_go (pc := 139) rw_242_139 ?_)
            exact ih.2 M61 x3 x4 v64 hG62 F63 (by omega) (by omega) (by omega) (by omega) (by omega) (by omega) (by omega) (by omega) (by omega) (by omega)
set_option maxRecDepth 4000 in
set_option maxHeartbeats 0 in
theorem C_242 {X : mm_X} {d : Nat} {M : mm_M} {Q : Option Value → mm_M → Prop} {p : Int32} {f : Int32} (hX : g_X X) (hd : 3 ≤ d) (hG : g_G M) (q1 : NJ M) (h : ∀ (r : Int32) (M1 : mm_M), g_G M1 → FR md_be M M1 → Q (some (.int r)) M1) : mm_T X d 241 0 [.ref 77, .int p, .int f, .null, .null, .null] [] M Q := by
  have F0 : FR md_be M M := FR.rf
  refine to_an (pc := 0) rw_242_0 rfl (to_c (pc := 1) rw_242_1 (x := (0 : Int32)) rfl rfl (s_pI (pc := 2) rw_242_2 hG rfl (fun M67 W66 => ?_)))
  have hG68 := g_wf hG W66 rfl rfl (by decide)
  have F69 := FR.w F0 W66 (show 77 = 77 ∧ 2 = 2 ∨ 94 ≤ 77 ∧ 77 ≤ 98 ∨ 77 = 120 by decide)
  refine to_in (pc := 5) rw_242_5 rfl (s_s (pc := 6) rw_242_6 (dp0 hd (by decide)) (ls0 := [.int p]) rfl (Nat.le_of_ble_eq_true rfl) (Nat.le_of_ble_eq_true rfl) rfl (to_rcs rfl rfl) rfl (to_in (pc := 0) rw_205_0 rfl (b_ilt (pc := 1) rw_205_1 (A := p.toInt) rfl (fun h70 => ?_) (fun h70 => ?_))))
  · refine to_c (pc := 14) rw_205_14 (x := (0 : Int32)) rfl rfl (s_r1 (pc := 15) rw_205_15 (A := 0) rfl (by decide) (b_ieq_t (pc := 9) rw_242_9 (A := 0) rfl (by decide) (to_c (pc := 20) rw_242_20 (x := (-1 : Int32)) rfl rfl (to_r0 (pc := 21) rw_242_21 ?_))))
    have k_71 : (-1 : Int32).toInt = -1 := rfl
    exact h (-1 : Int32) M67 hG68 F69 
  · refine to_in (pc := 4) rw_205_4 rfl (to_c (pc := 5) rw_205_5 (x := (6 : Int32)) rfl rfl (b_cge (pc := 7) rw_205_7 (A := p.toInt) (B := 6) rfl rfl (fun h72 => ?_) (fun h72 => ?_)))
    · refine to_c (pc := 14) rw_205_14 (x := (0 : Int32)) rfl rfl (s_r1 (pc := 15) rw_205_15 (A := 0) rfl (by decide) (b_ieq_t (pc := 9) rw_242_9 (A := 0) rfl (by decide) (to_c (pc := 20) rw_242_20 (x := (-1 : Int32)) rfl rfl (to_r0 (pc := 21) rw_242_21 ?_))))
      have k_73 : (-1 : Int32).toInt = -1 := rfl
      exact h (-1 : Int32) M67 hG68 F69 
    · refine to_c (pc := 10) rw_205_10 (x := (1 : Int32)) rfl rfl (to_go (pc := 11) rw_205_11 (s_r1 (pc := 15) rw_205_15 (A := 1) rfl (by decide) (b_ieq_f (pc := 9) rw_242_9 (A := 1) rfl (by decide) (to_an (pc := 12) rw_242_12 rfl (to_in (pc := 13) rw_242_13 rfl (s_v (pc := 14) rw_242_14 (dp0 hd (by decide)) (ls0 := [.ref 77, .int f]) rfl (Nat.le_of_ble_eq_true rfl) (Nat.le_of_ble_eq_true rfl) rfl (to_rc rfl rfl rfl (g_o hG68 rfl)) rfl (to_an (pc := 0) rw_179_0 rfl (to_in (pc := 1) rw_179_1 rfl (s_v (pc := 2) rw_179_2 (dp1 hd (by decide)) (ls0 := [.ref 77, .int f]) rfl (Nat.le_of_ble_eq_true rfl) (Nat.le_of_ble_eq_true rfl) rfl (to_rc rfl rfl rfl (g_o hG68 rfl)) rfl (to_in (pc := 0) rw_178_0 rfl (b_ilt (pc := 1) rw_178_1 (A := f.toInt) rfl (fun h74 => ?_) (fun h74 => ?_))))))))))))
      · refine to_c (pc := 16) rw_178_16 (x := (0 : Int32)) rfl rfl (s_r1 (pc := 17) rw_178_17 (A := 0) rfl (by decide) (b_ieq_t (pc := 5) rw_179_5 (A := 0) rfl (by decide) (to_c (pc := 22) rw_179_22 (x := (0 : Int32)) rfl rfl (s_r1 (pc := 23) rw_179_23 (A := 0) rfl (by decide) (b_ine_f (pc := 17) rw_242_17 (A := 0) rfl (by decide) (to_c (pc := 20) rw_242_20 (x := (-1 : Int32)) rfl rfl (to_r0 (pc := 21) rw_242_21 ?_)))))))
        have k_75 : (-1 : Int32).toInt = -1 := rfl
        exact h (-1 : Int32) M67 hG68 F69 
      · refine to_in (pc := 4) rw_178_4 rfl (to_an (pc := 5) rw_178_5 rfl ?_)
        have c_76 : M67.2.1 77 12 = (M.2.1 77 12) := (W_n W66 (by decide) rfl)
        have b_77 := g_b hG (a := 77) (i := 12) (lo := 0) (hi := 8) rfl rfl
        refine tt_gI (pc := 6) rw_178_6 (g_o hG68 rfl) (v := (M.2.1 77 12)) c_76 (b_cge (pc := 9) rw_178_9 (A := f.toInt) (B := (M.2.1 77 12).toInt) rfl rfl (fun h78 => ?_) (fun h78 => ?_))
        · refine to_c (pc := 16) rw_178_16 (x := (0 : Int32)) rfl rfl (s_r1 (pc := 17) rw_178_17 (A := 0) rfl (by decide) (b_ieq_t (pc := 5) rw_179_5 (A := 0) rfl (by decide) (to_c (pc := 22) rw_179_22 (x := (0 : Int32)) rfl rfl (s_r1 (pc := 23) rw_179_23 (A := 0) rfl (by decide) (b_ine_f (pc := 17) rw_242_17 (A := 0) rfl (by decide) (to_c (pc := 20) rw_242_20 (x := (-1 : Int32)) rfl rfl (to_r0 (pc := 21) rw_242_21 ?_)))))))
          have k_79 : (-1 : Int32).toInt = -1 := rfl
          exact h (-1 : Int32) M67 hG68 F69 
        · refine to_c (pc := 12) rw_178_12 (x := (1 : Int32)) rfl rfl (to_go (pc := 13) rw_178_13 (s_r1 (pc := 17) rw_178_17 (A := 1) rfl (by decide) (b_ieq_f (pc := 5) rw_179_5 (A := 1) rfl (by decide) (to_an (pc := 8) rw_179_8 rfl (s_gR (pc := 9) rw_179_9 hG68 rfl (v := 81) rfl (to_in (pc := 12) rw_179_12 rfl (s_ial (pc := 13) rw_179_13 hG68 rfl (n := 16) rfl rfl (A := f.toInt) rfl (by omega) (by omega) (lo := 0) (hi := 3) rfl rfl (fun v80 w_81 _ _ => to_c (pc := 14) rw_179_14 (x := (3 : Int32)) rfl rfl (b_ceq (pc := 15) rw_179_15 (A := v80.toInt) (B := 3) rfl rfl (fun h82 => ?_) (fun h82 => ?_))))))))))
          · refine to_c (pc := 22) rw_179_22 (x := (0 : Int32)) rfl rfl (s_r1 (pc := 23) rw_179_23 (A := 0) rfl (by decide) (b_ine_f (pc := 17) rw_242_17 (A := 0) rfl (by decide) (to_c (pc := 20) rw_242_20 (x := (-1 : Int32)) rfl rfl (to_r0 (pc := 21) rw_242_21 ?_))))
            have k_83 : (-1 : Int32).toInt = -1 := rfl
            exact h (-1 : Int32) M67 hG68 F69 
          · refine to_c (pc := 18) rw_179_18 (x := (1 : Int32)) rfl rfl (to_go (pc := 19) rw_179_19 (s_r1 (pc := 23) rw_179_23 (A := 1) rfl (by decide) (b_ine_t (pc := 17) rw_242_17 (A := 1) rfl (by decide) (to_an (pc := 22) rw_242_22 rfl (to_an (pc := 23) rw_242_23 rfl ?_)))))
            have c_84 : M67.2.1 77 29 = (M.2.1 77 29) := (W_n W66 (by decide) rfl)
            have b_85 := g_b hG (a := 77) (i := 29) (lo := 0) (hi := 150) rfl rfl
            refine tt_gI (pc := 24) rw_242_24 (g_o hG68 rfl) (v := (M.2.1 77 29)) c_84 (s_v (pc := 27) rw_242_27 (dp0 hd (by decide)) (ls0 := [.ref 77, .int (M.2.1 77 29), .null, .null]) rfl (Nat.le_of_ble_eq_true rfl) (Nat.le_of_ble_eq_true rfl) rfl (to_rc rfl rfl rfl (g_o hG68 rfl)) rfl ?_)
            have t_86 : (M67.2.1 77 29).toInt = (M.2.1 77 29).toInt := congrArg Int32.toInt c_84
            have j_87 := (NJ_f (fun a i z => W_n W66 (by /-r77,2-/ omega) rfl) q1)
            refine C_189 hX (dp1 hd (by decide)) hG68 (by omega) (by omega) (by omega) j_87 (n := (M.2.1 77 29)) (fun M90 hG89 F88 => ?_)
            have F91 := FR.c F69 F88 tg_354
            refine to_c (pc := 30) rw_242_30 (x := (0 : Int32)) rfl rfl (to_isn (pc := 31) rw_242_31 (ls2 := [.ref 77, .int p, .int f, .int (0 : Int32), .null, .null]) rfl rfl (to_c (pc := 32) rw_242_32 (x := (0 : Int32)) rfl rfl (to_is (pc := 33) rw_242_33 (ls2 := [.ref 77, .int p, .int f, .int (0 : Int32), .int (0 : Int32), .null]) rfl rfl ?_)))
            have k_92 : (0 : Int32).toInt = 0 := rfl
            exact (T_242_0 (p := p) (f := f) hX hd q1 h (((30 - (0 : Int32).toInt) * 100 + 50).toNat + 1)).1 M90 (0 : Int32) (0 : Int32) (.null) hG89 F91 (by omega) (by omega) (by omega) (by omega) (by omega) (by omega) (by omega)
