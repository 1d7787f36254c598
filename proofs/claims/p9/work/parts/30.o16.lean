section
theorem tg_278 {M M1 : mm_M} (F : FR (fun a i : Nat => a = 99 ∨ a = 100) M M1) : ∀ a i : Nat, AB_r a i → M1.2.1 a i = M.2.1 a i := fun a i z => F_n F (show ¬ (a = 99 ∨ a = 100) by omega) rfl
theorem tg_279 {M M1 : mm_M} (F : FR (fun a i : Nat => a = 77 ∧ i = 42 ∨ a = 99 ∨ a = 100 ∨ a = 109) M M1) : ∀ a i : Nat, AB_r a i → M1.2.1 a i = M.2.1 a i := fun a i z => F_n F (show ¬ (a = 77 ∧ i = 42 ∨ a = 99 ∨ a = 100 ∨ a = 109) by omega) rfl
theorem tg_280 {M M1 : mm_M} (F : FR (fun a i : Nat => 94 ≤ a ∧ a ≤ 98) M M1) : ∀ a i : Nat, ST_r a i → M1.2.1 a i = M.2.1 a i := fun a i z => F_n F (show ¬ (94 ≤ a ∧ a ≤ 98) by omega) rfl
theorem tg_281 {M M1 : mm_M} (F : FR (fun a i : Nat => 94 ≤ a ∧ a ≤ 98) M M1) : ∀ a i : Nat, AB_r a i → M1.2.1 a i = M.2.1 a i := fun a i z => F_n F (show ¬ (94 ≤ a ∧ a ≤ 98) by omega) rfl
theorem tg_282 {M M1 : mm_M} (F : FR (fun a i : Nat => 94 ≤ a ∧ a ≤ 98) M M1) : ∀ a i : Nat, (a = 100 ∨ a = 77 ∧ i = 28) → M1.2.1 a i = M.2.1 a i := fun a i z => F_n F (show ¬ (94 ≤ a ∧ a ≤ 98) by omega) rfl
theorem tg_283 {M M1 : mm_M} (F : FR (fun a i : Nat => a = 77 ∧ (i = 4 ∨ i = 5 ∨ 7 ≤ i ∧ i ≤ 10) ∨ a = 77 ∧ (i = 44 ∨ i = 52) ∨ 101 ≤ a ∧ a ≤ 108) M M1) : ∀ a i : Nat, (81 ≤ a ∧ a ≤ 84) → M1.2.1 a i = M.2.1 a i := fun a i z => F_n F (show ¬ (a = 77 ∧ (i = 4 ∨ i = 5 ∨ 7 ≤ i ∧ i ≤ 10) ∨ a = 77 ∧ (i = 44 ∨ i = 52) ∨ 101 ≤ a ∧ a ≤ 108) by omega) rfl
theorem tg_284 {M M1 : mm_M} (F : FR (fun a i : Nat => a = 77 ∧ (i = 4 ∨ i = 5 ∨ 7 ≤ i ∧ i ≤ 10) ∨ a = 77 ∧ (i = 44 ∨ i = 52) ∨ 101 ≤ a ∧ a ≤ 108) M M1) : ∀ a i : Nat, WC_r a i → M1.2.1 a i = M.2.1 a i := fun a i z => F_n F (show ¬ (a = 77 ∧ (i = 4 ∨ i = 5 ∨ 7 ≤ i ∧ i ≤ 10) ∨ a = 77 ∧ (i = 44 ∨ i = 52) ∨ 101 ≤ a ∧ a ≤ 108) by omega) rfl
theorem tg_285 {M M1 : mm_M} (F : FR (fun a i : Nat => a = 77 ∧ (i = 4 ∨ i = 5 ∨ 7 ≤ i ∧ i ≤ 10) ∨ a = 77 ∧ (i = 44 ∨ i = 52) ∨ 101 ≤ a ∧ a ≤ 108) M M1) : ∀ a i : Nat, NJ_r a i → M1.2.1 a i = M.2.1 a i := fun a i z => F_n F (show ¬ (a = 77 ∧ (i = 4 ∨ i = 5 ∨ 7 ≤ i ∧ i ≤ 10) ∨ a = 77 ∧ (i = 44 ∨ i = 52) ∨ 101 ≤ a ∧ a ≤ 108) by omega) rfl
theorem tg_286 {M M1 : mm_M} (F : FR (fun a i : Nat => a = 77 ∧ (i = 4 ∨ i = 5 ∨ 7 ≤ i ∧ i ≤ 10) ∨ a = 77 ∧ (i = 44 ∨ i = 52) ∨ 101 ≤ a ∧ a ≤ 108) M M1) : ∀ a i : Nat, (a = 100 ∨ a = 77 ∧ i = 28) → M1.2.1 a i = M.2.1 a i := fun a i z => F_n F (show ¬ (a = 77 ∧ (i = 4 ∨ i = 5 ∨ 7 ≤ i ∧ i ≤ 10) ∨ a = 77 ∧ (i = 44 ∨ i = 52) ∨ 101 ≤ a ∧ a ≤ 108) by omega) rfl
theorem tg_287 {M M1 : mm_M} (F : FR (fun a i : Nat => a = 77 ∧ (i = 4 ∨ i = 5 ∨ 7 ≤ i ∧ i ≤ 10) ∨ a = 77 ∧ (i = 44 ∨ i = 52) ∨ 101 ≤ a ∧ a ≤ 108) M M1) : ∀ a i : Nat, KQ_r a i → M1.2.1 a i = M.2.1 a i := fun a i z => F_n F (show ¬ (a = 77 ∧ (i = 4 ∨ i = 5 ∨ 7 ≤ i ∧ i ≤ 10) ∨ a = 77 ∧ (i = 44 ∨ i = 52) ∨ 101 ≤ a ∧ a ≤ 108) by omega) rfl
theorem tg_288 {M M1 : mm_M} (F : FR (fun a i : Nat => a = 77 ∧ (i = 42 ∨ i = 43) ∨ 94 ≤ a ∧ a ≤ 98 ∨ a = 99 ∨ a = 100 ∨ a = 109 ∨ a = 110 ∨ a = 111) M M1) : ∀ a i : Nat, (81 ≤ a ∧ a ≤ 84) → M1.2.1 a i = M.2.1 a i := fun a i z => F_n F (show ¬ (a = 77 ∧ (i = 42 ∨ i = 43) ∨ 94 ≤ a ∧ a ≤ 98 ∨ a = 99 ∨ a = 100 ∨ a = 109 ∨ a = 110 ∨ a = 111) by omega) rfl
theorem tg_289 {M M1 : mm_M} (F : FR (fun a i : Nat => a = 77 ∧ (i = 42 ∨ i = 43) ∨ 94 ≤ a ∧ a ≤ 98 ∨ a = 99 ∨ a = 100 ∨ a = 109 ∨ a = 110 ∨ a = 111) M M1) : ∀ a i : Nat, WC_r a i → M1.2.1 a i = M.2.1 a i := fun a i z => F_n F (show ¬ (a = 77 ∧ (i = 42 ∨ i = 43) ∨ 94 ≤ a ∧ a ≤ 98 ∨ a = 99 ∨ a = 100 ∨ a = 109 ∨ a = 110 ∨ a = 111) by omega) rfl
theorem tg_290 {M M1 : mm_M} (F : FR (fun a i : Nat => a = 77 ∧ (i = 42 ∨ i = 43) ∨ 94 ≤ a ∧ a ≤ 98 ∨ a = 99 ∨ a = 100 ∨ a = 109 ∨ a = 110 ∨ a = 111) M M1) : ∀ a i : Nat, NJ_r a i → M1.2.1 a i = M.2.1 a i := fun a i z => F_n F (show ¬ (a = 77 ∧ (i = 42 ∨ i = 43) ∨ 94 ≤ a ∧ a ≤ 98 ∨ a = 99 ∨ a = 100 ∨ a = 109 ∨ a = 110 ∨ a = 111) by omega) rfl
theorem tg_291 {M M1 : mm_M} (F : FR (fun a i : Nat => a = 77 ∧ (i = 42 ∨ i = 43) ∨ 94 ≤ a ∧ a ≤ 98 ∨ a = 99 ∨ a = 100 ∨ a = 109 ∨ a = 110 ∨ a = 111) M M1) : ∀ a i : Nat, KQ_r a i → M1.2.1 a i = M.2.1 a i := fun a i z => F_n F (show ¬ (a = 77 ∧ (i = 42 ∨ i = 43) ∨ 94 ≤ a ∧ a ≤ 98 ∨ a = 99 ∨ a = 100 ∨ a = 109 ∨ a = 110 ∨ a = 111) by omega) rfl
theorem tg_292 : ∀ a i : Nat, (a = 99 ∨ a = 100) → (a = 77 ∧ (i = 42 ∨ i = 43) ∨ 94 ≤ a ∧ a ≤ 98 ∨ a = 99 ∨ a = 100 ∨ a = 109 ∨ a = 110 ∨ a = 111) := fun a i z => by omega
theorem tg_293 : ∀ a i : Nat, (a = 77 ∧ i = 42 ∨ a = 99 ∨ a = 100 ∨ a = 109) → (a = 77 ∧ (i = 42 ∨ i = 43) ∨ 94 ≤ a ∧ a ≤ 98 ∨ a = 99 ∨ a = 100 ∨ a = 109 ∨ a = 110 ∨ a = 111) := fun a i z => by omega
theorem tg_294 : ∀ a i : Nat, (94 ≤ a ∧ a ≤ 98) → (a = 77 ∧ (i = 42 ∨ i = 43) ∨ 94 ≤ a ∧ a ≤ 98 ∨ a = 99 ∨ a = 100 ∨ a = 109 ∨ a = 110 ∨ a = 111) := fun a i z => by omega
theorem tg_295 : ∀ a i : Nat, (a = 77 ∧ (i = 4 ∨ i = 5 ∨ 7 ≤ i ∧ i ≤ 10) ∨ a = 77 ∧ (i = 44 ∨ i = 52) ∨ 101 ≤ a ∧ a ≤ 108) → (a = 77 ∧ (1 ≤ i ∧ i ≤ 2 ∨ 4 ≤ i ∧ i ≤ 10 ∨ 42 ≤ i ∧ i ≤ 44 ∨ i = 52) ∨ 94 ≤ a ∧ a ≤ 111) := fun a i z => by omega
theorem tg_296 : ∀ a i : Nat, (a = 77 ∧ (i = 42 ∨ i = 43) ∨ 94 ≤ a ∧ a ≤ 98 ∨ a = 99 ∨ a = 100 ∨ a = 109 ∨ a = 110 ∨ a = 111) → (a = 77 ∧ (1 ≤ i ∧ i ≤ 2 ∨ 4 ≤ i ∧ i ≤ 10 ∨ 42 ≤ i ∧ i ≤ 44 ∨ i = 52) ∨ 94 ≤ a ∧ a ≤ 111) := fun a i z => by omega
theorem tg_297 : ∀ a i : Nat, (a = 77 ∧ (i = 1 ∨ 4 ≤ i ∧ i ≤ 10)) → (a = 77 ∧ (1 ≤ i ∧ i ≤ 2 ∨ 4 ≤ i ∧ i ≤ 10 ∨ 42 ≤ i ∧ i ≤ 44 ∨ i = 52) ∨ 94 ≤ a ∧ a ≤ 111) := fun a i z => by omega
theorem tg_298 : ∀ a i j : Nat, (a = 100 ∨ a = 77 ∧ i = 28) → ¬ (a = 111 ∧ i = j) := fun a i j z => by omega
theorem tg_299 : ∀ a i j : Nat, (a = 100 ∨ a = 77 ∧ i = 28) → ¬ (a = 110 ∧ i = j) := fun a i j z => by omega
theorem tg_300 : ∀ a i : Nat, (a = 100 ∨ a = 77 ∧ i = 28) → ¬ (a = 77 ∧ i = 43) := fun a i z => by omega
theorem tg_301 : ∀ a i : Nat, (a = 100 ∨ a = 77 ∧ i = 28) → ¬ (a = 77 ∧ i = 42) := fun a i z => by omega
theorem tg_302 : ∀ a i : Nat, (81 ≤ a ∧ a ≤ 84) → ¬ (a = 77 ∧ i = 52) := fun a i z => by omega
theorem tg_303 : ∀ a i : Nat, (81 ≤ a ∧ a ≤ 84) → ¬ (a = 77 ∧ i = 44) := fun a i z => by omega
theorem tg_304 : ∀ a i : Nat, (a = 100 ∨ a = 77 ∧ i = 28) → ¬ (a = 77 ∧ i = 52) := fun a i z => by omega
theorem tg_305 : ∀ a i : Nat, (a = 100 ∨ a = 77 ∧ i = 28) → ¬ (a = 77 ∧ i = 44) := fun a i z => by omega
set_option maxRecDepth 4000 in
set_option maxHeartbeats 0 in
theorem T_218_0 {X : mm_X} {d : Nat} {M : mm_M} {Q : Option Value → mm_M → Prop} (hX : g_X X) (hd : 3 ≤ d) (q1 : NJ M) (q2 : PS M) (q3 : AB M) (q4 : ST M) (q5 : (M.2.1 77 52).toInt ≤ 0) (h : ∀ (r : Int32) (M1 : mm_M), g_G M1 → FR md_do M M1 → PS M1 → Q (some (.int r)) M1) : ∀ nn9 : Nat, (∀ (N : mm_M) (x1 : Int32) (x2 : Int32), g_G N → FR md_do M N → (0 ≤ x1.toInt) → (x1.toInt ≤ 5) → (0 ≤ x2.toInt) → (x2.toInt ≤ 40) → (x2.toInt ≤ (N.2.1 77 44).toInt) → (DK N x2.toInt (x1.toInt).toNat) → (∀ i : Nat, i < (x1.toInt).toNat → 1 ≤ (N.2.1 111 i).toInt) → (AB N) → (PS N) → (3000 - (N.2.1 77 43).toInt) * 1000 + LSm N (x1.toInt).toNat < (nn9 : Int) → mm_T X d 217 22 [.ref 77, .int x1, .int x2] [] N Q) := by
  intro nn9
  induction nn9 with
  | zero =>
    intro N x1 x2 hG F0 g1 g2 g3 g4 g5 g6 g7 g8 g9 hm
    have b_1 := g_b hG (a := 77) (i := 43) (lo := 0) (hi := 3000) rfl rfl
    have b_2 := g_b hG (a := 77) (i := 44) (lo := 0) (hi := 40) rfl rfl
    have s_3 := LSm_nn hG (x1.toInt).toNat
    exfalso; omega
  | succ nn9 ih =>
    intro N x1 x2 hG F0 g1 g2 g3 g4 g5 g6 g7 g8 g9 hm
    have b_4 := g_b hG (a := 77) (i := 43) (lo := 0) (hi := 3000) rfl rfl
    have b_5 := g_b hG (a := 77) (i := 44) (lo := 0) (hi := 40) rfl rfl
    have s_6 := LSm_nn hG (x1.toInt).toNat
    refine to_in (pc := 22) rw_218_22 rfl (b_ile (pc := 23) rw_218_23 (A := x1.toInt) rfl (fun h7 => ?_) (fun h7 => ?_))
    · refine to_in (pc := 86) rw_218_86 rfl (to_an (pc := 87) rw_218_87 rfl (tt_gI (pc := 88) rw_218_88 (g_o hG rfl) (v := (N.2.1 77 44)) rfl (b_cne (pc := 91) rw_218_91 (A := x2.toInt) (B := (N.2.1 77 44).toInt) rfl rfl (fun h8 => ?_) (fun h8 => ?_))))
      · refine to_an (pc := 96) rw_218_96 rfl (tt_gI (pc := 97) rw_218_97 (g_o hG rfl) (v := (N.2.1 77 43)) rfl (to_c (pc := 100) rw_218_100 (x := (3000 : Int32)) rfl rfl (b_cne (pc := 103) rw_218_103 (A := (N.2.1 77 43).toInt) (B := 3000) rfl rfl (fun h9 => ?_) (fun h9 => ?_))))
        · refine to_an (pc := 108) rw_218_108 rfl (to_dupr (pc := 109) rw_218_109 (tt_gI (pc := 110) rw_218_110 (g_o hG rfl) (v := (N.2.1 77 43)) rfl (to_c (pc := 113) rw_218_113 (x := (1 : Int32)) rfl rfl (s_add (pc := 114) rw_218_114 (A := (N.2.1 77 43).toInt) (B := 1) rfl rfl (by omega) (fun v10 e11 => s_pI (pc := 115) rw_218_115 hG rfl (fun M13 W12 => ?_))))))
          have hG14 := g_w hG W12 (A := v10.toInt) rfl (lo := 0) (hi := 3000) rfl rfl (by omega) (by decide)
          have F15 := FR.w F0 W12 (show 77 = 77 ∧ (43 = 42 ∨ 43 = 43) ∨ 94 ≤ 77 ∧ 77 ≤ 98 ∨ 77 = 99 ∨ 77 = 100 ∨ 77 = 109 ∨ 77 = 110 ∨ 77 = 111 by decide)
          refine to_an (pc := 118) rw_218_118 rfl (s_gR (pc := 119) rw_218_119 hG14 rfl (v := 101) rfl (to_in (pc := 122) rw_218_122 rfl (s_ial (pc := 123) rw_218_123 hG14 rfl (n := 40) rfl rfl (A := x2.toInt) rfl (by omega) (by omega) (lo := 0) (hi := 2) rfl rfl (fun v16 w_17 _ _ => ?_))))
          have c_18 : M13.2.1 77 44 = (N.2.1 77 44) := (W_n W12 (by decide) rfl)
          have t_19 : (M13.2.1 77 44).toInt = (N.2.1 77 44).toInt := congrArg Int32.toInt c_18
          have j_21 := (AB_f (fun a i z => W_n W12 (by /-r77,43-/ omega) rfl) g8)
          have s_20 := AB_u (A := x2.toInt) j_21 (by omega) (by omega) (by omega)
          have t_22 := congrArg Int32.toInt w_17
          have t_23 : (M13.2.1 101 (x2.toInt).toNat).toInt = (N.2.1 101 (x2.toInt).toNat).toInt := congrArg Int32.toInt (W_n W12 (by omega) rfl)
          have t_24 : (M13.2.1 102 (x2.toInt).toNat).toInt = (N.2.1 102 (x2.toInt).toNat).toInt := congrArg Int32.toInt (W_n W12 (by omega) rfl)
          have t_25 : (M13.2.1 103 (x2.toInt).toNat).toInt = (N.2.1 103 (x2.toInt).toNat).toInt := congrArg Int32.toInt (W_n W12 (by omega) rfl)
          have t_26 : (M13.2.1 104 (x2.toInt).toNat).toInt = (N.2.1 104 (x2.toInt).toNat).toInt := congrArg Int32.toInt (W_n W12 (by omega) rfl)
          refine b_ine (pc := 124) rw_218_124 (A := v16.toInt) rfl (fun h27 => ?_) (fun h27 => ?_)
          · refine to_an (pc := 132) rw_218_132 rfl (s_gR (pc := 133) rw_218_133 hG14 rfl (v := 101) rfl (to_in (pc := 136) rw_218_136 rfl (s_ialk (pc := 137) rw_218_137 hG14 rfl (n := 40) rfl rfl (A := x2.toInt) rfl (by omega) (by omega) (v := v16) w_17 (to_c (pc := 138) rw_218_138 (x := (1 : Int32)) rfl rfl (b_cne (pc := 139) rw_218_139 (A := v16.toInt) (B := 1) rfl rfl (fun h30 => ?_) (fun h30 => ?_))))))
            · refine to_an (pc := 147) rw_218_147 rfl (s_gR (pc := 148) rw_218_148 hG14 rfl (v := 101) rfl (to_in (pc := 151) rw_218_151 rfl (s_ialk (pc := 152) rw_218_152 hG14 rfl (n := 40) rfl rfl (A := x2.toInt) rfl (by omega) (by omega) (v := v16) w_17 (to_c (pc := 153) rw_218_153 (x := (2 : Int32)) rfl rfl (b_cge_t (pc := 154) rw_218_154 (A := v16.toInt) (B := 2) rfl rfl (by omega) (to_an (pc := 163) rw_218_163 rfl (s_gR (pc := 164) rw_218_164 hG14 rfl (v := 102) rfl (to_in (pc := 167) rw_218_167 rfl (s_ial (pc := 168) rw_218_168 hG14 rfl (n := 40) rfl rfl (A := x2.toInt) rfl (by omega) (by omega) (lo := -1) (hi := 99) rfl rfl (fun v33 w_34 _ _ => ?_))))))))))
              have t_35 := congrArg Int32.toInt w_34
              have s_36 := DK_le g6 (by omega) (by omega) (by have z : N.2.1 101 (x2.toInt).toNat = v16 := (((W_n W12 (by omega) rfl)).symm.trans w_17); rw [z]; omega) (Or.inl (by omega))
              refine b_ine (pc := 169) rw_218_169 (A := v33.toInt) rfl (fun h37 => ?_) (fun h37 => ?_)
              · refine to_an (pc := 182) rw_218_182 rfl (s_gR (pc := 183) rw_218_183 hG14 rfl (v := 110) rfl (to_in (pc := 186) rw_218_186 rfl (to_in (pc := 187) rw_218_187 rfl (s_ias (pc := 188) rw_218_188 hG14 rfl (n := 5) rfl (A := x1.toInt) rfl (by omega) (by omega) (fun M39 W38 => ?_)))))
                have hG40 := g_w hG14 W38 (A := x2.toInt) rfl (lo := 0) (hi := 39) rfl rfl (by omega) (by decide)
                have F41 := FR.w F15 W38 (show 110 = 77 ∧ ((x1.toInt).toNat = 42 ∨ (x1.toInt).toNat = 43) ∨ 94 ≤ 110 ∧ 110 ≤ 98 ∨ 110 = 99 ∨ 110 = 100 ∨ 110 = 109 ∨ 110 = 110 ∨ 110 = 111 by omega)
                refine to_an (pc := 189) rw_218_189 rfl (s_gR (pc := 190) rw_218_190 hG40 rfl (v := 111) rfl (to_in (pc := 193) rw_218_193 rfl (to_an (pc := 194) rw_218_194 rfl (s_gR (pc := 195) rw_218_195 hG40 rfl (v := 102) rfl (to_in (pc := 198) rw_218_198 rfl (s_ialk (pc := 199) rw_218_199 hG40 rfl (n := 40) rfl rfl (A := x2.toInt) rfl (by omega) (by omega) (v := v33) (W_n W38 (by omega) w_34) (s_ias (pc := 200) rw_218_200 hG40 rfl (n := 5) rfl (A := x1.toInt) rfl (by omega) (by omega) (fun M45 W44 => ?_))))))))
                have hG46 := g_w hG40 W44 (A := v33.toInt) rfl (lo := 0) (hi := 99) rfl rfl (by omega) (by decide)
                have F47 := FR.w F41 W44 (show 111 = 77 ∧ ((x1.toInt).toNat = 42 ∨ (x1.toInt).toNat = 43) ∨ 94 ≤ 111 ∧ 111 ≤ 98 ∨ 111 = 99 ∨ 111 = 100 ∨ 111 = 109 ∨ 111 = 110 ∨ 111 = 111 by omega)
                refine s_inc (pc := 201) rw_218_201 (ls2 := fun v => [.ref 77, .int v, .int x2]) rfl rfl (fun _ => rfl) (A := x1.toInt) (B := 1) rfl rfl (by omega) (fun v48 e49 => s_inc (pc := 204) rw_218_204 (ls2 := fun v => [.ref 77, .int v48, .int v]) rfl rfl (fun _ => rfl) (A := x2.toInt) (B := 1) rfl rfl (by omega) (fun v50 e51 => to_go (pc := 207) rw_218_207 ?_))
                have c_52 : M45.2.1 77 44 = (N.2.1 77 44) := (W_n W44 (fun z => absurd z.1 (by decide)) (W_n W38 (fun z => absurd z.1 (by decide)) c_18))
                have t_53 : (M45.2.1 77 44).toInt = (N.2.1 77 44).toInt := congrArg Int32.toInt c_52
                have s_54 : LSm M45 (v48.toInt).toNat = LSm M45 ((x1.toInt).toNat + 1) := by rw [show (v48.toInt).toNat = (x1.toInt).toNat + 1 by omega]
                have s_55 := LSm_s (M := M45) (x1.toInt).toNat
                have s_56 : LSm M45 (x1.toInt).toNat = LSm N (x1.toInt).toNat := LSm_f _ (fun i z => (W_n W44 (by omega) (W_n W38 (by omega) (W_n W12 (by omega) rfl))))
                have s_57 : (M45.2.1 111 (x1.toInt).toNat).toInt = v33.toInt := by rw [show (x1.toInt).toNat = (x1.toInt).toNat by omega]; exact congrArg Int32.toInt (W_e W44)
                have j_58 := (AB_f (fun a i z => W_n W44 (by /-r111-/ omega) rfl) (AB_f (fun a i z => W_n W38 (by /-r110-/ omega) rfl) j_21))
                have j_59 := (PS_f (fun a i z => W_n W44 (tg_298 a i _ z) rfl) (PS_f (fun a i z => W_n W38 (tg_299 a i _ z) rfl) (PS_f (fun a i z => W_n W12 (tg_300 a i z) rfl) g9)))
                have c_60 : M45.2.1 77 43 = v10 := (W_n W44 (fun z => absurd z.1 (by decide)) (W_n W38 (fun z => absurd z.1 (by decide)) (W_e W12)))
                have t_61 : (M45.2.1 77 43).toInt = v10.toInt := congrArg Int32.toInt c_60
                exact ih M45 v48 v50 hG46 F47 (by omega) (by omega) (by omega) (by omega) (by omega) (by rw [show (v48.toInt).toNat = (x1.toInt).toNat + 1 by omega, show v50.toInt = x2.toInt + 1 by omega]; exact DK_push g6 (by omega) (by omega) (by have z : N.2.1 101 (x2.toInt).toNat = v16 := (((W_n W12 (by omega) rfl)).symm.trans w_17); rw [z]; omega) (Or.inl (by omega)) (fun r i z => (W_n W44 (by omega) (W_n W38 (by omega) (W_n W12 (by omega) rfl)))) (by rw [(W_n W44 (by omega) (W_e W38))] <;> omega)) (fun i z => by
                    by_cases ei : i = (x1.toInt).toNat
                    · rw [ei]; omega
                    · rw [(W_n W44 (by omega) (W_n W38 (by omega) (W_n W12 (by omega) rfl)))]; exact g7 i (by omega)) j_58 j_59 (by omega)
              · refine to_an (pc := 172) rw_218_172 rfl (s_gR (pc := 173) rw_218_173 hG14 rfl (v := 105) rfl (to_in (pc := 176) rw_218_176 rfl (s_ial (pc := 177) rw_218_177 hG14 rfl (n := 40) rfl rfl (A := x2.toInt) rfl (by omega) (by omega) (lo := 0) (hi := 40) rfl rfl (fun v62 w_63 _ _ => ?_))))
                have t_64 := congrArg Int32.toInt w_63
                have s_65 := DK_skip g6 (by omega) (by omega) (by have z : N.2.1 101 (x2.toInt).toNat = v16 := (((W_n W12 (by omega) rfl)).symm.trans w_17); rw [z]; omega) (Or.inl (by omega))
                have s_66 := s_65.2
                rw [(((W_n W12 (by omega) rfl)).symm.trans w_63)] at s_66
                refine to_isn (pc := 178) rw_218_178 (ls2 := [.ref 77, .int x1, .int v62]) rfl rfl (to_go (pc := 179) rw_218_179 ?_)
                have s_68 : LSm M13 (x1.toInt).toNat = LSm N (x1.toInt).toNat := LSm_f _ (fun i z => (W_n W12 (by omega) rfl))
                have j_69 := (PS_f (fun a i z => W_n W12 (tg_300 a i z) rfl) g9)
                have c_70 : M13.2.1 77 43 = v10 := (W_e W12)
                have t_71 : (M13.2.1 77 43).toInt = v10.toInt := congrArg Int32.toInt c_70
                exact ih M13 x1 v62 hG14 F15 (by omega) (by omega) (by omega) (by omega) (by omega) (DK_f (fun r i z => (W_n W12 (by omega) rfl)) (by have z := (s_65).1; rw [(((W_n W12 (by omega) rfl)).symm.trans w_63)] at z; exact z)) (fun i z => by rw [(W_n W12 (by omega) rfl)]; exact g7 i z) j_21 j_69 (by omega)
            · refine to_an (pc := 142) rw_218_142 rfl (to_in (pc := 143) rw_218_143 rfl (s_v (pc := 144) rw_218_144 (dp0 hd (by decide)) (ls0 := [.ref 77, .int x2, .null, .null]) rfl (Nat.le_of_ble_eq_true rfl) (Nat.le_of_ble_eq_true rfl) rfl (to_rc rfl rfl rfl (g_o hG14 rfl)) rfl ?_))
              have s_72 := AB_u (A := x2.toInt) j_21 (by omega) (by omega) (by omega)
              have t_73 : (M13.2.1 101 (x2.toInt).toNat).toInt = (N.2.1 101 (x2.toInt).toNat).toInt := congrArg Int32.toInt (W_n W12 (by omega) rfl)
              have t_74 : (M13.2.1 102 (x2.toInt).toNat).toInt = (N.2.1 102 (x2.toInt).toNat).toInt := congrArg Int32.toInt (W_n W12 (by omega) rfl)
              have t_75 : (M13.2.1 103 (x2.toInt).toNat).toInt = (N.2.1 103 (x2.toInt).toNat).toInt := congrArg Int32.toInt (W_n W12 (by omega) rfl)
              have t_76 : (M13.2.1 104 (x2.toInt).toNat).toInt = (N.2.1 104 (x2.toInt).toNat).toInt := congrArg Int32.toInt (W_n W12 (by omega) rfl)
              have s_77 := g_b hG14 (a := 103) (i := (x2.toInt).toNat) (lo := -1) (hi := 5) rfl rfl
              have j_78 := (PS_f (fun a i z => W_n W12 (tg_300 a i z) rfl) g9)
              refine C_217 hX (dp1 hd (by decide)) hG14 (by omega) (by omega) rfl rfl (by omega) (by omega) (by omega) (by omega) (by omega) j_78 (a := x2) (o := (M13.2.1 102 (x2.toInt).toNat)) (t := (M13.2.1 103 (x2.toInt).toNat)) (fun M82 hG80 F79 p_81 => ?_)
              have F83 := FR.c F15 F79 tg_292
              refine to_an (pc := 147) rw_218_147 rfl (s_gR (pc := 148) rw_218_148 hG80 rfl (v := 101) rfl (to_in (pc := 151) rw_218_151 rfl (s_ialk (pc := 152) rw_218_152 hG80 rfl (n := 40) rfl rfl (A := x2.toInt) rfl (by omega) (by omega) (v := v16) (F_n F79 (show ¬ (101 = 99 ∨ 101 = 100) by decide) w_17) (to_c (pc := 153) rw_218_153 (x := (2 : Int32)) rfl rfl (b_cge_f (pc := 154) rw_218_154 (A := v16.toInt) (B := 2) rfl rfl (by omega) (s_inc (pc := 157) rw_218_157 (ls2 := fun v => [.ref 77, .int x1, .int v]) rfl rfl (fun _ => rfl) (A := x2.toInt) (B := 1) rfl rfl (by omega) (fun v86 e87 => to_go (pc := 160) rw_218_160 ?_)))))))
              have c_88 : M82.2.1 77 44 = (N.2.1 77 44) := (F_n F79 (show ¬ (77 = 99 ∨ 77 = 100) by decide) c_18)
              have t_89 : (M82.2.1 77 44).toInt = (N.2.1 77 44).toInt := congrArg Int32.toInt c_88
              have s_90 : LSm M82 (x1.toInt).toNat = LSm N (x1.toInt).toNat := LSm_f _ (fun i z => (F_n F79 (show ¬ (111 = 99 ∨ 111 = 100) by decide) (W_n W12 (by omega) rfl)))
              have j_91 := (AB_f (tg_278 F79) j_21)
              have c_92 : M82.2.1 77 43 = v10 := (F_n F79 (show ¬ (77 = 99 ∨ 77 = 100) by decide) (W_e W12))
              have t_93 : (M82.2.1 77 43).toInt = v10.toInt := congrArg Int32.toInt c_92
              exact ih M82 x1 v86 hG80 F83 (by omega) (by omega) (by omega) (by omega) (by omega) (by rw [show v86.toInt = x2.toInt + 1 by omega]; exact (DK_f (fun r i z => (F_n F79 (show ¬ (r = 99 ∨ r = 100) by omega) (W_n W12 (by omega) rfl))) (DK_next g6 (Or.inl (by omega))))) (fun i z => by rw [(F_n F79 (show ¬ (111 = 99 ∨ 111 = 100) by decide) (W_n W12 (by omega) rfl))]; exact g7 i z) j_91 p_81 (by omega)
          · refine to_an (pc := 127) rw_218_127 rfl (to_in (pc := 128) rw_218_128 rfl (s_v (pc := 129) rw_218_129 (dp0 hd (by decide)) (ls0 := [.ref 77, .int x2, .null, .null, .null, .null, .null]) rfl (Nat.le_of_ble_eq_true rfl) (Nat.le_of_ble_eq_true rfl) rfl (to_rc rfl rfl rfl (g_o hG14 rfl)) rfl ?_))
            have s_94 := AB_u (A := x2.toInt) j_21 (by omega) (by omega) (by omega)
            have t_95 : (M13.2.1 101 (x2.toInt).toNat).toInt = (N.2.1 101 (x2.toInt).toNat).toInt := congrArg Int32.toInt (W_n W12 (by omega) rfl)
            have t_96 : (M13.2.1 102 (x2.toInt).toNat).toInt = (N.2.1 102 (x2.toInt).toNat).toInt := congrArg Int32.toInt (W_n W12 (by omega) rfl)
            have t_97 : (M13.2.1 103 (x2.toInt).toNat).toInt = (N.2.1 103 (x2.toInt).toNat).toInt := congrArg Int32.toInt (W_n W12 (by omega) rfl)
            have t_98 : (M13.2.1 104 (x2.toInt).toNat).toInt = (N.2.1 104 (x2.toInt).toNat).toInt := congrArg Int32.toInt (W_n W12 (by omega) rfl)
            have s_99 := g_b hG14 (a := 103) (i := (x2.toInt).toNat) (lo := -1) (hi := 5) rfl rfl
            have t_100 : (M13.2.1 102 (x2.toInt).toNat).toInt = (N.2.1 102 (x2.toInt).toNat).toInt := congrArg Int32.toInt (W_n W12 (by omega) rfl)
            have t_101 : (M13.2.1 102 (x2.toInt).toNat).toInt = (N.2.1 102 (x2.toInt).toNat).toInt := congrArg Int32.toInt (W_n W12 (by omega) rfl)
            have t_102 : (M13.2.1 103 (x2.toInt).toNat).toInt = (N.2.1 103 (x2.toInt).toNat).toInt := congrArg Int32.toInt (W_n W12 (by omega) rfl)
            have t_103 : (M13.2.1 104 (x2.toInt).toNat).toInt = (N.2.1 104 (x2.toInt).toNat).toInt := congrArg Int32.toInt (W_n W12 (by omega) rfl)
            have j_104 := (PS_f (fun a i z => W_n W12 (tg_300 a i z) rfl) g9)
            refine C_216 hX (dp1 hd (by decide)) hG14 (by omega) (by omega) (by omega) (by omega) (by omega) (by omega) j_104 (a := x2) (fun M108 hG106 F105 p_107 => ?_)
            have F109 := FR.c F15 F105 tg_293
            refine to_an (pc := 132) rw_218_132 rfl (s_gR (pc := 133) rw_218_133 hG106 rfl (v := 101) rfl (to_in (pc := 136) rw_218_136 rfl (s_ialk (pc := 137) rw_218_137 hG106 rfl (n := 40) rfl rfl (A := x2.toInt) rfl (by omega) (by omega) (v := v16) (F_n F105 (show ¬ (101 = 77 ∧ (x2.toInt).toNat = 42 ∨ 101 = 99 ∨ 101 = 100 ∨ 101 = 109) by omega) w_17) (to_c (pc := 138) rw_218_138 (x := (1 : Int32)) rfl rfl (b_cne_t (pc := 139) rw_218_139 (A := v16.toInt) (B := 1) rfl rfl (by omega) (to_an (pc := 147) rw_218_147 rfl (s_gR (pc := 148) rw_218_148 hG106 rfl (v := 101) rfl (to_in (pc := 151) rw_218_151 rfl (s_ialk (pc := 152) rw_218_152 hG106 rfl (n := 40) rfl rfl (A := x2.toInt) rfl (by omega) (by omega) (v := v16) (F_n F105 (show ¬ (101 = 77 ∧ (x2.toInt).toNat = 42 ∨ 101 = 99 ∨ 101 = 100 ∨ 101 = 109) by omega) w_17) (to_c (pc := 153) rw_218_153 (x := (2 : Int32)) rfl rfl (b_cge_f (pc := 154) rw_218_154 (A := v16.toInt) (B := 2) rfl rfl (by omega) ?_)))))))))))
            refine s_inc (pc := 157) rw_218_157 (ls2 := fun v => [.ref 77, .int x1, .int v]) rfl rfl (fun _ => rfl) (A := x2.toInt) (B := 1) rfl rfl (by omega) (fun v114 e115 => to_go (pc := 160) rw_218_160 ?_)
            have c_116 : M108.2.1 77 44 = (N.2.1 77 44) := (F_n F105 (show ¬ (77 = 77 ∧ 44 = 42 ∨ 77 = 99 ∨ 77 = 100 ∨ 77 = 109) by decide) c_18)
            have t_117 : (M108.2.1 77 44).toInt = (N.2.1 77 44).toInt := congrArg Int32.toInt c_116
            have s_118 : LSm M108 (x1.toInt).toNat = LSm N (x1.toInt).toNat := LSm_f _ (fun i z => (F_n F105 (show ¬ (111 = 77 ∧ i = 42 ∨ 111 = 99 ∨ 111 = 100 ∨ 111 = 109) by omega) (W_n W12 (by omega) rfl)))
            have j_119 := (AB_f (tg_279 F105) j_21)
            have c_120 : M108.2.1 77 43 = v10 := (F_n F105 (show ¬ (77 = 77 ∧ 43 = 42 ∨ 77 = 99 ∨ 77 = 100 ∨ 77 = 109) by decide) (W_e W12))
            have t_121 : (M108.2.1 77 43).toInt = v10.toInt := congrArg Int32.toInt c_120
            exact ih M108 x1 v114 hG106 F109 (by omega) (by omega) (by omega) (by omega) (by omega) (by rw [show v114.toInt = x2.toInt + 1 by omega]; exact (DK_f (fun r i z => (F_n F105 (show ¬ (r = 77 ∧ i = 42 ∨ r = 99 ∨ r = 100 ∨ r = 109) by omega) (W_n W12 (by omega) rfl))) (DK_next g6 (Or.inl (by omega))))) (fun i z => by rw [(F_n F105 (show ¬ (111 = 77 ∧ i = 42 ∨ 111 = 99 ∨ 111 = 100 ∨ 111 = 109) by omega) (W_n W12 (by omega) rfl))]; exact g7 i z) j_119 p_107 (by omega)
        · refine to_c (pc := 106) rw_218_106 (x := (1 : Int32)) rfl rfl (to_r0 (pc := 107) rw_218_107 ?_)
          have k_122 : (1 : Int32).toInt = 1 := rfl
          exact h (1 : Int32) N hG F0 g9
      · refine to_c (pc := 94) rw_218_94 (x := (0 : Int32)) rfl rfl (to_r0 (pc := 95) rw_218_95 ?_)
        have k_123 : (0 : Int32).toInt = 0 := rfl
        exact h (0 : Int32) N hG F0 g9
    · refine to_in (pc := 26) rw_218_26 rfl (to_an (pc := 27) rw_218_27 rfl (s_gR (pc := 28) rw_218_28 hG rfl (v := 105) rfl (to_an (pc := 31) rw_218_31 rfl (s_gR (pc := 32) rw_218_32 hG rfl (v := 110) rfl (to_in (pc := 35) rw_218_35 rfl (to_c (pc := 36) rw_218_36 (x := (1 : Int32)) rfl rfl (s_sub (pc := 37) rw_218_37 (A := x1.toInt) (B := 1) rfl rfl (by omega) (fun v124 e125 => s_ial (pc := 38) rw_218_38 hG rfl (n := 5) rfl rfl (A := v124.toInt) rfl (by omega) (by omega) (lo := 0) (hi := 39) rfl rfl (fun v126 w_127 _ _ => ?_)))))))))
      have s_128 : DK N x2.toInt ((v124.toInt).toNat + 1) := by rw [show (v124.toInt).toNat + 1 = (x1.toInt).toNat by omega]; exact g6
      have s_129 := DK_t s_128
      rw [w_127] at s_129
      refine s_ial (pc := 39) rw_218_39 hG rfl (n := 40) rfl rfl (A := v126.toInt) rfl (by omega) (by omega) (lo := 0) (hi := 40) rfl rfl (fun v130 w_131 _ _ => ?_)
      rw [w_131] at s_129
      refine b_cne (pc := 40) rw_218_40 (A := x2.toInt) (B := v130.toInt) rfl rfl (fun h132 => ?_) (fun h132 => ?_)
      · refine to_in (pc := 86) rw_218_86 rfl (to_an (pc := 87) rw_218_87 rfl (tt_gI (pc := 88) rw_218_88 (g_o hG rfl) (v := (N.2.1 77 44)) rfl (b_cne (pc := 91) rw_218_91 (A := x2.toInt) (B := (N.2.1 77 44).toInt) rfl rfl (fun h133 => ?_) (fun h133 => ?_))))
        · refine to_an (pc := 96) rw_218_96 rfl (tt_gI (pc := 97) rw_218_97 (g_o hG rfl) (v := (N.2.1 77 43)) rfl (to_c (pc := 100) rw_218_100 (x := (3000 : Int32)) rfl rfl (b_cne (pc := 103) rw_218_103 (A := (N.2.1 77 43).toInt) (B := 3000) rfl rfl (fun h134 => ?_) (fun h134 => ?_))))
          · refine to_an (pc := 108) rw_218_108 rfl (to_dupr (pc := 109) rw_218_109 (tt_gI (pc := 110) rw_218_110 (g_o hG rfl) (v := (N.2.1 77 43)) rfl (to_c (pc := 113) rw_218_113 (x := (1 : Int32)) rfl rfl (s_add (pc := 114) rw_218_114 (A := (N.2.1 77 43).toInt) (B := 1) rfl rfl (by omega) (fun v135 e136 => s_pI (pc := 115) rw_218_115 hG rfl (fun M138 W137 => ?_))))))
            have hG139 := g_w hG W137 (A := v135.toInt) rfl (lo := 0) (hi := 3000) rfl rfl (by omega) (by decide)
            have F140 := FR.w F0 W137 (show 77 = 77 ∧ (43 = 42 ∨ 43 = 43) ∨ 94 ≤ 77 ∧ 77 ≤ 98 ∨ 77 = 99 ∨ 77 = 100 ∨ 77 = 109 ∨ 77 = 110 ∨ 77 = 111 by decide)
            refine to_an (pc := 118) rw_218_118 rfl (s_gR (pc := 119) rw_218_119 hG139 rfl (v := 101) rfl (to_in (pc := 122) rw_218_122 rfl (s_ial (pc := 123) rw_218_123 hG139 rfl (n := 40) rfl rfl (A := x2.toInt) rfl (by omega) (by omega) (lo := 0) (hi := 2) rfl rfl (fun v141 w_142 _ _ => ?_))))
            have c_143 : M138.2.1 77 44 = (N.2.1 77 44) := (W_n W137 (by decide) rfl)
            have t_144 : (M138.2.1 77 44).toInt = (N.2.1 77 44).toInt := congrArg Int32.toInt c_143
            have j_146 := (AB_f (fun a i z => W_n W137 (by /-r77,43-/ omega) rfl) g8)
            have s_145 := AB_u (A := x2.toInt) j_146 (by omega) (by omega) (by omega)
            have t_147 := congrArg Int32.toInt w_142
            have t_148 : (M138.2.1 101 (x2.toInt).toNat).toInt = (N.2.1 101 (x2.toInt).toNat).toInt := congrArg Int32.toInt (W_n W137 (by omega) rfl)
            have t_149 : (M138.2.1 102 (x2.toInt).toNat).toInt = (N.2.1 102 (x2.toInt).toNat).toInt := congrArg Int32.toInt (W_n W137 (by omega) rfl)
            have t_150 : (M138.2.1 103 (x2.toInt).toNat).toInt = (N.2.1 103 (x2.toInt).toNat).toInt := congrArg Int32.toInt (W_n W137 (by omega) rfl)
            have t_151 : (M138.2.1 104 (x2.toInt).toNat).toInt = (N.2.1 104 (x2.toInt).toNat).toInt := congrArg Int32.toInt (W_n W137 (by omega) rfl)
            refine b_ine (pc := 124) rw_218_124 (A := v141.toInt) rfl (fun h152 => ?_) (fun h152 => ?_)
            · refine to_an (pc := 132) rw_218_132 rfl (s_gR (pc := 133) rw_218_133 hG139 rfl (v := 101) rfl (to_in (pc := 136) rw_218_136 rfl (s_ialk (pc := 137) rw_218_137 hG139 rfl (n := 40) rfl rfl (A := x2.toInt) rfl (by omega) (by omega) (v := v141) w_142 (to_c (pc := 138) rw_218_138 (x := (1 : Int32)) rfl rfl (b_cne (pc := 139) rw_218_139 (A := v141.toInt) (B := 1) rfl rfl (fun h155 => ?_) (fun h155 => ?_))))))
              · refine to_an (pc := 147) rw_218_147 rfl (s_gR (pc := 148) rw_218_148 hG139 rfl (v := 101) rfl (to_in (pc := 151) rw_218_151 rfl (s_ialk (pc := 152) rw_218_152 hG139 rfl (n := 40) rfl rfl (A := x2.toInt) rfl (by omega) (by omega) (v := v141) w_142 (to_c (pc := 153) rw_218_153 (x := (2 : Int32)) rfl rfl (b_cge_t (pc := 154) rw_218_154 (A := v141.toInt) (B := 2) rfl rfl (by omega) (to_an (pc := 163) rw_218_163 rfl (s_gR (pc := 164) rw_218_164 hG139 rfl (v := 102) rfl (to_in (pc := 167) rw_218_167 rfl (s_ial (pc := 168) rw_218_168 hG139 rfl (n := 40) rfl rfl (A := x2.toInt) rfl (by omega) (by omega) (lo := -1) (hi := 99) rfl rfl (fun v158 w_159 _ _ => ?_))))))))))
                have t_160 := congrArg Int32.toInt w_159
                have s_161 := DK_le g6 (by omega) (by omega) (by have z : N.2.1 101 (x2.toInt).toNat = v141 := (((W_n W137 (by omega) rfl)).symm.trans w_142); rw [z]; omega) (Or.inr (by rw [show (x1.toInt).toNat - 1 = (v124.toInt).toNat by omega, w_127, w_131]; omega))
                refine b_ine (pc := 169) rw_218_169 (A := v158.toInt) rfl (fun h162 => ?_) (fun h162 => ?_)
                · refine to_an (pc := 182) rw_218_182 rfl (s_gR (pc := 183) rw_218_183 hG139 rfl (v := 110) rfl (to_in (pc := 186) rw_218_186 rfl (to_in (pc := 187) rw_218_187 rfl (s_ias (pc := 188) rw_218_188 hG139 rfl (n := 5) rfl (A := x1.toInt) rfl (by omega) (by omega) (fun M164 W163 => ?_)))))
                  have hG165 := g_w hG139 W163 (A := x2.toInt) rfl (lo := 0) (hi := 39) rfl rfl (by omega) (by decide)
                  have F166 := FR.w F140 W163 (show 110 = 77 ∧ ((x1.toInt).toNat = 42 ∨ (x1.toInt).toNat = 43) ∨ 94 ≤ 110 ∧ 110 ≤ 98 ∨ 110 = 99 ∨ 110 = 100 ∨ 110 = 109 ∨ 110 = 110 ∨ 110 = 111 by omega)
                  refine to_an (pc := 189) rw_218_189 rfl (s_gR (pc := 190) rw_218_190 hG165 rfl (v := 111) rfl (to_in (pc := 193) rw_218_193 rfl (to_an (pc := 194) rw_218_194 rfl (s_gR (pc := 195) rw_218_195 hG165 rfl (v := 102) rfl (to_in (pc := 198) rw_218_198 rfl (s_ialk (pc := 199) rw_218_199 hG165 rfl (n := 40) rfl rfl (A := x2.toInt) rfl (by omega) (by omega) (v := v158) (W_n W163 (by omega) w_159) (s_ias (pc := 200) rw_218_200 hG165 rfl (n := 5) rfl (A := x1.toInt) rfl (by omega) (by omega) (fun M170 W169 => ?_))))))))
                  have hG171 := g_w hG165 W169 (A := v158.toInt) rfl (lo := 0) (hi := 99) rfl rfl (by omega) (by decide)
                  have F172 := FR.w F166 W169 (show 111 = 77 ∧ ((x1.toInt).toNat = 42 ∨ (x1.toInt).toNat = 43) ∨ 94 ≤ 111 ∧ 111 ≤ 98 ∨ 111 = 99 ∨ 111 = 100 ∨ 111 = 109 ∨ 111 = 110 ∨ 111 = 111 by omega)
                  refine s_inc (pc := 201) rw_218_201 (ls2 := fun v => [.ref 77, .int v, .int x2]) rfl rfl (fun _ => rfl) (A := x1.toInt) (B := 1) rfl rfl (by omega) (fun v173 e174 => s_inc (pc := 204) rw_218_204 (ls2 := fun v => [.ref 77, .int v173, .int v]) rfl rfl (fun _ => rfl) (A := x2.toInt) (B := 1) rfl rfl (by omega) (fun v175 e176 => to_go (pc := 207) rw_218_207 ?_))
                  have c_177 : M170.2.1 77 44 = (N.2.1 77 44) := (W_n W169 (fun z => absurd z.1 (by decide)) (W_n W163 (fun z => absurd z.1 (by decide)) c_143))
                  have t_178 : (M170.2.1 77 44).toInt = (N.2.1 77 44).toInt := congrArg Int32.toInt c_177
                  have s_179 : LSm M170 (v173.toInt).toNat = LSm M170 ((x1.toInt).toNat + 1) := by rw [show (v173.toInt).toNat = (x1.toInt).toNat + 1 by omega]
                  have s_180 := LSm_s (M := M170) (x1.toInt).toNat
                  have s_181 : LSm M170 (x1.toInt).toNat = LSm N (x1.toInt).toNat := LSm_f _ (fun i z => (W_n W169 (by omega) (W_n W163 (by omega) (W_n W137 (by omega) rfl))))
                  have s_182 : (M170.2.1 111 (x1.toInt).toNat).toInt = v158.toInt := by rw [show (x1.toInt).toNat = (x1.toInt).toNat by omega]; exact congrArg Int32.toInt (W_e W169)
                  have j_183 := (AB_f (fun a i z => W_n W169 (by /-r111-/ omega) rfl) (AB_f (fun a i z => W_n W163 (by /-r110-/ omega) rfl) j_146))
                  have j_184 := (PS_f (fun a i z => W_n W169 (tg_298 a i _ z) rfl) (PS_f (fun a i z => W_n W163 (tg_299 a i _ z) rfl) (PS_f (fun a i z => W_n W137 (tg_300 a i z) rfl) g9)))
                  have c_185 : M170.2.1 77 43 = v135 := (W_n W169 (fun z => absurd z.1 (by decide)) (W_n W163 (fun z => absurd z.1 (by decide)) (W_e W137)))
                  have t_186 : (M170.2.1 77 43).toInt = v135.toInt := congrArg Int32.toInt c_185
                  exact ih M170 v173 v175 hG171 F172 (by omega) (by omega) (by omega) (by omega) (by omega) (by rw [show (v173.toInt).toNat = (x1.toInt).toNat + 1 by omega, show v175.toInt = x2.toInt + 1 by omega]; exact DK_push g6 (by omega) (by omega) (by have z : N.2.1 101 (x2.toInt).toNat = v141 := (((W_n W137 (by omega) rfl)).symm.trans w_142); rw [z]; omega) (Or.inr (by rw [show (x1.toInt).toNat - 1 = (v124.toInt).toNat by omega, w_127, w_131]; omega)) (fun r i z => (W_n W169 (by omega) (W_n W163 (by omega) (W_n W137 (by omega) rfl)))) (by rw [(W_n W169 (by omega) (W_e W163))] <;> omega)) (fun i z => by
                      by_cases ei : i = (x1.toInt).toNat
                      · rw [ei]; omega
                      · rw [(W_n W169 (by omega) (W_n W163 (by omega) (W_n W137 (by omega) rfl)))]; exact g7 i (by omega)) j_183 j_184 (by omega)
                · refine to_an (pc := 172) rw_218_172 rfl (s_gR (pc := 173) rw_218_173 hG139 rfl (v := 105) rfl (to_in (pc := 176) rw_218_176 rfl (s_ial (pc := 177) rw_218_177 hG139 rfl (n := 40) rfl rfl (A := x2.toInt) rfl (by omega) (by omega) (lo := 0) (hi := 40) rfl rfl (fun v187 w_188 _ _ => ?_))))
                  have t_189 := congrArg Int32.toInt w_188
                  have s_190 := DK_skip g6 (by omega) (by omega) (by have z : N.2.1 101 (x2.toInt).toNat = v141 := (((W_n W137 (by omega) rfl)).symm.trans w_142); rw [z]; omega) (Or.inr (by rw [show (x1.toInt).toNat - 1 = (v124.toInt).toNat by omega, w_127, w_131]; omega))
                  have s_191 := s_190.2
                  rw [(((W_n W137 (by omega) rfl)).symm.trans w_188)] at s_191
                  refine to_isn (pc := 178) rw_218_178 (ls2 := [.ref 77, .int x1, .int v187]) rfl rfl (to_go (pc := 179) rw_218_179 ?_)
                  have s_193 : LSm M138 (x1.toInt).toNat = LSm N (x1.toInt).toNat := LSm_f _ (fun i z => (W_n W137 (by omega) rfl))
                  have j_194 := (PS_f (fun a i z => W_n W137 (tg_300 a i z) rfl) g9)
                  have c_195 : M138.2.1 77 43 = v135 := (W_e W137)
                  have t_196 : (M138.2.1 77 43).toInt = v135.toInt := congrArg Int32.toInt c_195
                  exact ih M138 x1 v187 hG139 F140 (by omega) (by omega) (by omega) (by omega) (by omega) (DK_f (fun r i z => (W_n W137 (by omega) rfl)) (by have z := (s_190).1; rw [(((W_n W137 (by omega) rfl)).symm.trans w_188)] at z; exact z)) (fun i z => by rw [(W_n W137 (by omega) rfl)]; exact g7 i z) j_146 j_194 (by omega)
              · refine to_an (pc := 142) rw_218_142 rfl (to_in (pc := 143) rw_218_143 rfl (s_v (pc := 144) rw_218_144 (dp0 hd (by decide)) (ls0 := [.ref 77, .int x2, .null, .null]) rfl (Nat.le_of_ble_eq_true rfl) (Nat.le_of_ble_eq_true rfl) rfl (to_rc rfl rfl rfl (g_o hG139 rfl)) rfl ?_))
                have s_197 := AB_u (A := x2.toInt) j_146 (by omega) (by omega) (by omega)
                have t_198 : (M138.2.1 101 (x2.toInt).toNat).toInt = (N.2.1 101 (x2.toInt).toNat).toInt := congrArg Int32.toInt (W_n W137 (by omega) rfl)
                have t_199 : (M138.2.1 102 (x2.toInt).toNat).toInt = (N.2.1 102 (x2.toInt).toNat).toInt := congrArg Int32.toInt (W_n W137 (by omega) rfl)
                have t_200 : (M138.2.1 103 (x2.toInt).toNat).toInt = (N.2.1 103 (x2.toInt).toNat).toInt := congrArg Int32.toInt (W_n W137 (by omega) rfl)
                have t_201 : (M138.2.1 104 (x2.toInt).toNat).toInt = (N.2.1 104 (x2.toInt).toNat).toInt := congrArg Int32.toInt (W_n W137 (by omega) rfl)
                have s_202 := g_b hG139 (a := 103) (i := (x2.toInt).toNat) (lo := -1) (hi := 5) rfl rfl
                have j_203 := (PS_f (fun a i z => W_n W137 (tg_300 a i z) rfl) g9)
                refine C_217 hX (dp1 hd (by decide)) hG139 (by omega) (by omega) rfl rfl (by omega) (by omega) (by omega) (by omega) (by omega) j_203 (a := x2) (o := (M138.2.1 102 (x2.toInt).toNat)) (t := (M138.2.1 103 (x2.toInt).toNat)) (fun M207 hG205 F204 p_206 => ?_)
                have F208 := FR.c F140 F204 tg_292
                refine to_an (pc := 147) rw_218_147 rfl (s_gR (pc := 148) rw_218_148 hG205 rfl (v := 101) rfl (to_in (pc := 151) rw_218_151 rfl (s_ialk (pc := 152) rw_218_152 hG205 rfl (n := 40) rfl rfl (A := x2.toInt) rfl (by omega) (by omega) (v := v141) (F_n F204 (show ¬ (101 = 99 ∨ 101 = 100) by decide) w_142) (to_c (pc := 153) rw_218_153 (x := (2 : Int32)) rfl rfl (b_cge_f (pc := 154) rw_218_154 (A := v141.toInt) (B := 2) rfl rfl (by omega) (s_inc (pc := 157) rw_218_157 (ls2 := fun v => [.ref 77, .int x1, .int v]) rfl rfl (fun _ => rfl) (A := x2.toInt) (B := 1) rfl rfl (by omega) (fun v211 e212 => to_go (pc := 160) rw_218_160 ?_)))))))
                have c_213 : M207.2.1 77 44 = (N.2.1 77 44) := (F_n F204 (show ¬ (77 = 99 ∨ 77 = 100) by decide) c_143)
                have t_214 : (M207.2.1 77 44).toInt = (N.2.1 77 44).toInt := congrArg Int32.toInt c_213
                have s_215 : LSm M207 (x1.toInt).toNat = LSm N (x1.toInt).toNat := LSm_f _ (fun i z => (F_n F204 (show ¬ (111 = 99 ∨ 111 = 100) by decide) (W_n W137 (by omega) rfl)))
                have j_216 := (AB_f (tg_278 F204) j_146)
                have c_217 : M207.2.1 77 43 = v135 := (F_n F204 (show ¬ (77 = 99 ∨ 77 = 100) by decide) (W_e W137))
                have t_218 : (M207.2.1 77 43).toInt = v135.toInt := congrArg Int32.toInt c_217
                exact ih M207 x1 v211 hG205 F208 (by omega) (by omega) (by omega) (by omega) (by omega) (by rw [show v211.toInt = x2.toInt + 1 by omega]; exact (DK_f (fun r i z => (F_n F204 (show ¬ (r = 99 ∨ r = 100) by omega) (W_n W137 (by omega) rfl))) (DK_next g6 (Or.inr (by rw [show (x1.toInt).toNat - 1 = (v124.toInt).toNat by omega, w_127, w_131]; omega))))) (fun i z => by rw [(F_n F204 (show ¬ (111 = 99 ∨ 111 = 100) by decide) (W_n W137 (by omega) rfl))]; exact g7 i z) j_216 p_206 (by omega)
            · refine to_an (pc := 127) rw_218_127 rfl (to_in (pc := 128) rw_218_128 rfl (s_v (pc := 129) rw_218_129 (dp0 hd (by decide)) (ls0 := [.ref 77, .int x2, .null, .null, .null, .null, .null]) rfl (Nat.le_of_ble_eq_true rfl) (Nat.le_of_ble_eq_true rfl) rfl (to_rc rfl rfl rfl (g_o hG139 rfl)) rfl ?_))
              have s_219 := AB_u (A := x2.toInt) j_146 (by omega) (by omega) (by omega)
              have t_220 : (M138.2.1 101 (x2.toInt).toNat).toInt = (N.2.1 101 (x2.toInt).toNat).toInt := congrArg Int32.toInt (W_n W137 (by omega) rfl)
              have t_221 : (M138.2.1 102 (x2.toInt).toNat).toInt = (N.2.1 102 (x2.toInt).toNat).toInt := congrArg Int32.toInt (W_n W137 (by omega) rfl)
              have t_222 : (M138.2.1 103 (x2.toInt).toNat).toInt = (N.2.1 103 (x2.toInt).toNat).toInt := congrArg Int32.toInt (W_n W137 (by omega) rfl)
              have t_223 : (M138.2.1 104 (x2.toInt).toNat).toInt = (N.2.1 104 (x2.toInt).toNat).toInt := congrArg Int32.toInt (W_n W137 (by omega) rfl)
              have s_224 := g_b hG139 (a := 103) (i := (x2.toInt).toNat) (lo := -1) (hi := 5) rfl rfl
              have t_225 : (M138.2.1 102 (x2.toInt).toNat).toInt = (N.2.1 102 (x2.toInt).toNat).toInt := congrArg Int32.toInt (W_n W137 (by omega) rfl)
              have t_226 : (M138.2.1 102 (x2.toInt).toNat).toInt = (N.2.1 102 (x2.toInt).toNat).toInt := congrArg Int32.toInt (W_n W137 (by omega) rfl)
              have t_227 : (M138.2.1 103 (x2.toInt).toNat).toInt = (N.2.1 103 (x2.toInt).toNat).toInt := congrArg Int32.toInt (W_n W137 (by omega) rfl)
              have t_228 : (M138.2.1 104 (x2.toInt).toNat).toInt = (N.2.1 104 (x2.toInt).toNat).toInt := congrArg Int32.toInt (W_n W137 (by omega) rfl)
              have j_229 := (PS_f (fun a i z => W_n W137 (tg_300 a i z) rfl) g9)
              refine C_216 hX (dp1 hd (by decide)) hG139 (by omega) (by omega) (by omega) (by omega) (by omega) (by omega) j_229 (a := x2) (fun M233 hG231 F230 p_232 => ?_)
              have F234 := FR.c F140 F230 tg_293
              refine to_an (pc := 132) rw_218_132 rfl (s_gR (pc := 133) rw_218_133 hG231 rfl (v := 101) rfl (to_in (pc := 136) rw_218_136 rfl (s_ialk (pc := 137) rw_218_137 hG231 rfl (n := 40) rfl rfl (A := x2.toInt) rfl (by omega) (by omega) (v := v141) (F_n F230 (show ¬ (101 = 77 ∧ (x2.toInt).toNat = 42 ∨ 101 = 99 ∨ 101 = 100 ∨ 101 = 109) by omega) w_142) (to_c (pc := 138) rw_218_138 (x := (1 : Int32)) rfl rfl (b_cne_t (pc := 139) rw_218_139 (A := v141.toInt) (B := 1) rfl rfl (by omega) (to_an (pc := 147) rw_218_147 rfl (s_gR (pc := 148) rw_218_148 hG231 rfl (v := 101) rfl (to_in (pc := 151) rw_218_151 rfl (s_ialk (pc := 152) rw_218_152 hG231 rfl (n := 40) rfl rfl (A := x2.toInt) rfl (by omega) (by omega) (v := v141) (F_n F230 (show ¬ (101 = 77 ∧ (x2.toInt).toNat = 42 ∨ 101 = 99 ∨ 101 = 100 ∨ 101 = 109) by omega) w_142) (to_c (pc := 153) rw_218_153 (x := (2 : Int32)) rfl rfl (b_cge_f (pc := 154) rw_218_154 (A := v141.toInt) (B := 2) rfl rfl (by omega) ?_)))))))))))
              refine s_inc (pc := 157) rw_218_157 (ls2 := fun v => [.ref 77, .int x1, .int v]) rfl rfl (fun _ => rfl) (A := x2.toInt) (B := 1) rfl rfl (by omega) (fun v239 e240 => to_go (pc := 160) rw_218_160 ?_)
              have c_241 : M233.2.1 77 44 = (N.2.1 77 44) := (F_n F230 (show ¬ (77 = 77 ∧ 44 = 42 ∨ 77 = 99 ∨ 77 = 100 ∨ 77 = 109) by decide) c_143)
              have t_242 : (M233.2.1 77 44).toInt = (N.2.1 77 44).toInt := congrArg Int32.toInt c_241
              have s_243 : LSm M233 (x1.toInt).toNat = LSm N (x1.toInt).toNat := LSm_f _ (fun i z => (F_n F230 (show ¬ (111 = 77 ∧ i = 42 ∨ 111 = 99 ∨ 111 = 100 ∨ 111 = 109) by omega) (W_n W137 (by omega) rfl)))
              have j_244 := (AB_f (tg_279 F230) j_146)
              have c_245 : M233.2.1 77 43 = v135 := (F_n F230 (show ¬ (77 = 77 ∧ 43 = 42 ∨ 77 = 99 ∨ 77 = 100 ∨ 77 = 109) by decide) (W_e W137))
              have t_246 : (M233.2.1 77 43).toInt = v135.toInt := congrArg Int32.toInt c_245
              exact ih M233 x1 v239 hG231 F234 (by omega) (by omega) (by omega) (by omega) (by omega) (by rw [show v239.toInt = x2.toInt + 1 by omega]; exact (DK_f (fun r i z => (F_n F230 (show ¬ (r = 77 ∧ i = 42 ∨ r = 99 ∨ r = 100 ∨ r = 109) by omega) (W_n W137 (by omega) rfl))) (DK_next g6 (Or.inr (by rw [show (x1.toInt).toNat - 1 = (v124.toInt).toNat by omega, w_127, w_131]; omega))))) (fun i z => by rw [(F_n F230 (show ¬ (111 = 77 ∧ i = 42 ∨ 111 = 99 ∨ 111 = 100 ∨ 111 = 109) by omega) (W_n W137 (by omega) rfl))]; exact g7 i z) j_244 p_232 (by omega)
          · refine to_c (pc := 106) rw_218_106 (x := (1 : Int32)) rfl rfl (to_r0 (pc := 107) rw_218_107 ?_)
            have k_247 : (1 : Int32).toInt = 1 := rfl
            exact h (1 : Int32) N hG F0 g9
        · refine to_c (pc := 94) rw_218_94 (x := (0 : Int32)) rfl rfl (to_r0 (pc := 95) rw_218_95 ?_)
          have k_248 : (0 : Int32).toInt = 0 := rfl
          exact h (0 : Int32) N hG F0 g9
      · refine to_an (pc := 43) rw_218_43 rfl (s_gR (pc := 44) rw_218_44 hG rfl (v := 111) rfl (to_in (pc := 47) rw_218_47 rfl (to_c (pc := 48) rw_218_48 (x := (1 : Int32)) rfl rfl (s_subk (pc := 49) rw_218_49 (A := x1.toInt) (B := 1) rfl rfl (by omega) (v := v124) e125 (to_dup2 (pc := 50) rw_218_50 (s_ial (pc := 51) rw_218_51 hG rfl (n := 5) rfl rfl (A := v124.toInt) rfl (by omega) (by omega) (lo := 0) (hi := 99) rfl rfl (fun v251 w_252 _ _ => ?_)))))))
        have t_253 := congrArg Int32.toInt w_252
        have s_254 := g7 (v124.toInt).toNat (by omega)
        rw [w_252] at s_254
        refine to_c (pc := 52) rw_218_52 (x := (1 : Int32)) rfl rfl (s_sub (pc := 53) rw_218_53 (A := v251.toInt) (B := 1) rfl rfl (by omega) (fun v255 e256 => s_ias (pc := 54) rw_218_54 hG rfl (n := 5) rfl (A := v124.toInt) rfl (by omega) (by omega) (fun M258 W257 => ?_)))
        have hG259 := g_w hG W257 (A := v255.toInt) rfl (lo := 0) (hi := 99) rfl rfl (by omega) (by decide)
        have F260 := FR.w F0 W257 (show 111 = 77 ∧ ((v124.toInt).toNat = 42 ∨ (v124.toInt).toNat = 43) ∨ 94 ≤ 111 ∧ 111 ≤ 98 ∨ 111 = 99 ∨ 111 = 100 ∨ 111 = 109 ∨ 111 = 110 ∨ 111 = 111 by omega)
        refine to_an (pc := 55) rw_218_55 rfl (s_gR (pc := 56) rw_218_56 hG259 rfl (v := 111) rfl (to_in (pc := 59) rw_218_59 rfl (to_c (pc := 60) rw_218_60 (x := (1 : Int32)) rfl rfl (s_subk (pc := 61) rw_218_61 (A := x1.toInt) (B := 1) rfl rfl (by omega) (v := v124) e125 (s_ialk (pc := 62) rw_218_62 hG259 rfl (n := 5) rfl rfl (A := v124.toInt) rfl (by omega) (by omega) (v := v255) (W_e W257) (b_ile (pc := 63) rw_218_63 (A := v255.toInt) rfl (fun h265 => ?_) (fun h265 => ?_)))))))
        · refine s_inc (pc := 80) rw_218_80 (ls2 := fun v => [.ref 77, .int v, .int x2]) rfl rfl (fun _ => rfl) (A := x1.toInt) (B := -1) rfl rfl (by omega) (fun v266 e267 => to_go (pc := 83) rw_218_83 ?_)
          have c_268 : M258.2.1 77 44 = (N.2.1 77 44) := (W_n W257 (fun z => absurd z.1 (by decide)) rfl)
          have t_269 : (M258.2.1 77 44).toInt = (N.2.1 77 44).toInt := congrArg Int32.toInt c_268
          have s_270 : LSm N (x1.toInt).toNat = LSm N ((v124.toInt).toNat + 1) := by rw [show (x1.toInt).toNat = (v124.toInt).toNat + 1 by omega]
          have s_271 := LSm_s (M := N) (v124.toInt).toNat
          have s_272 : LSm M258 (v124.toInt).toNat = LSm N (v124.toInt).toNat := LSm_f _ (fun i z => (W_n W257 (by omega) rfl))
          have s_273 := g_b hG (a := 111) (i := (v124.toInt).toNat) (lo := 0) (hi := 99) rfl rfl
          have s_274 : LSm M258 (v266.toInt).toNat = LSm M258 (v124.toInt).toNat := by rw [show (v266.toInt).toNat = (v124.toInt).toNat by omega]
          have j_275 := (AB_f (fun a i z => W_n W257 (by /-r111-/ omega) rfl) g8)
          have j_276 := (PS_f (fun a i z => W_n W257 (tg_298 a i _ z) rfl) g9)
          have c_277 : M258.2.1 77 43 = (N.2.1 77 43) := (W_n W257 (fun z => absurd z.1 (by decide)) rfl)
          have t_278 : (M258.2.1 77 43).toInt = (N.2.1 77 43).toInt := congrArg Int32.toInt c_277
          exact ih M258 v266 x2 hG259 F260 (by omega) (by omega) (by omega) (by omega) (by omega) (by rw [show (v266.toInt).toNat = (v124.toInt).toNat by omega]; exact (DK_f (fun r i z => (W_n W257 (by omega) rfl)) (DK_pop s_128))) (fun i z => by rw [(W_n W257 (by omega) rfl)]; exact g7 i (by omega)) j_275 j_276 (by omega)
        · refine to_an (pc := 66) rw_218_66 rfl (s_gR (pc := 67) rw_218_67 hG259 rfl (v := 110) rfl (to_in (pc := 70) rw_218_70 rfl (to_c (pc := 71) rw_218_71 (x := (1 : Int32)) rfl rfl (s_subk (pc := 72) rw_218_72 (A := x1.toInt) (B := 1) rfl rfl (by omega) (v := v124) e125 (s_ialk (pc := 73) rw_218_73 hG259 rfl (n := 5) rfl rfl (A := v124.toInt) rfl (by omega) (by omega) (v := v126) (W_n W257 (by omega) w_127) (to_c (pc := 74) rw_218_74 (x := (1 : Int32)) rfl rfl (s_add (pc := 75) rw_218_75 (A := v126.toInt) (B := 1) rfl rfl (by omega) (fun v283 e284 => to_isn (pc := 76) rw_218_76 (ls2 := [.ref 77, .int x1, .int v283]) rfl rfl (to_go (pc := 77) rw_218_77 ?_)))))))))
          have c_285 : M258.2.1 77 44 = (N.2.1 77 44) := (W_n W257 (fun z => absurd z.1 (by decide)) rfl)
          have t_286 : (M258.2.1 77 44).toInt = (N.2.1 77 44).toInt := congrArg Int32.toInt c_285
          have s_287 : LSm N (x1.toInt).toNat = LSm N ((v124.toInt).toNat + 1) := by rw [show (x1.toInt).toNat = (v124.toInt).toNat + 1 by omega]
          have s_288 := LSm_s (M := N) (v124.toInt).toNat
          have s_289 : LSm M258 (v124.toInt).toNat = LSm N (v124.toInt).toNat := LSm_f _ (fun i z => (W_n W257 (by omega) rfl))
          have s_290 := g_b hG (a := 111) (i := (v124.toInt).toNat) (lo := 0) (hi := 99) rfl rfl
          have s_291 : LSm M258 (x1.toInt).toNat = LSm M258 ((v124.toInt).toNat + 1) := by rw [show (x1.toInt).toNat = (v124.toInt).toNat + 1 by omega]
          have s_292 := LSm_s (M := M258) (v124.toInt).toNat
          have s_293 : (M258.2.1 111 (v124.toInt).toNat).toInt = v255.toInt := by rw [show (v124.toInt).toNat = (v124.toInt).toNat by omega]; exact congrArg Int32.toInt (W_e W257)
          have j_294 := (AB_f (fun a i z => W_n W257 (by /-r111-/ omega) rfl) g8)
          have j_295 := (PS_f (fun a i z => W_n W257 (tg_298 a i _ z) rfl) g9)
          have c_296 : M258.2.1 77 43 = (N.2.1 77 43) := (W_n W257 (fun z => absurd z.1 (by decide)) rfl)
          have t_297 : (M258.2.1 77 43).toInt = (N.2.1 77 43).toInt := congrArg Int32.toInt c_296
          exact ih M258 x1 v283 hG259 F260 (by omega) (by omega) (by omega) (by omega) (by omega) (by rw [show (x1.toInt).toNat = (v124.toInt).toNat + 1 by omega]; exact (DK_f (fun r i z => (W_n W257 (by omega) rfl)) (DK_dec s_128 (by rw [w_127]; omega)))) (fun i z => by
              by_cases ei : i = (v124.toInt).toNat
              · rw [ei]; omega
              · rw [(W_n W257 (by omega) rfl)]; exact g7 i (by omega)) j_294 j_295 (by omega)
set_option maxRecDepth 4000 in
set_option maxHeartbeats 0 in
theorem C_218 {X : mm_X} {d : Nat} {M : mm_M} {Q : Option Value → mm_M → Prop} (hX : g_X X) (hd : 3 ≤ d) (hG : g_G M) (q1 : NJ M) (q2 : PS M) (q3 : AB M) (q4 : ST M) (q5 : (M.2.1 77 52).toInt ≤ 0) (h : ∀ (r : Int32) (M1 : mm_M), g_G M1 → FR md_do M M1 → PS M1 → Q (some (.int r)) M1) : mm_T X d 217 0 [.ref 77, .null, .null] [] M Q := by
  have F0 : FR md_do M M := FR.rf
  have b_298 := g_b hG (a := 77) (i := 52) (lo := 0) (hi := 5) rfl rfl
  refine to_an (pc := 0) rw_218_0 rfl (to_an (pc := 1) rw_218_1 rfl ?_)
  have b_299 := g_b hG (a := 77) (i := 29) (lo := 0) (hi := 150) rfl rfl
  refine tt_gI (pc := 2) rw_218_2 (g_o hG rfl) (v := (M.2.1 77 29)) rfl (s_v (pc := 5) rw_218_5 (dp0 hd (by decide)) (ls0 := [.ref 77, .int (M.2.1 77 29), .null, .null]) rfl (Nat.le_of_ble_eq_true rfl) (Nat.le_of_ble_eq_true rfl) rfl (to_rc rfl rfl rfl (g_o hG rfl)) rfl (C_189 hX (dp1 hd (by decide)) hG (by omega) (by omega) (by omega) q1 (n := (M.2.1 77 29)) (fun M302 hG301 F300 => ?_)))
  have F303 := FR.c F0 F300 tg_294
  refine to_an (pc := 8) rw_218_8 rfl (to_c (pc := 9) rw_218_9 (x := (0 : Int32)) rfl rfl (s_pI (pc := 10) rw_218_10 hG301 rfl (fun M305 W304 => ?_)))
  have hG306 := g_wf hG301 W304 rfl rfl (by decide)
  have F307 := FR.w F303 W304 (show 77 = 77 ∧ (42 = 42 ∨ 42 = 43) ∨ 94 ≤ 77 ∧ 77 ≤ 98 ∨ 77 = 99 ∨ 77 = 100 ∨ 77 = 109 ∨ 77 = 110 ∨ 77 = 111 by decide)
  refine to_an (pc := 13) rw_218_13 rfl (to_c (pc := 14) rw_218_14 (x := (0 : Int32)) rfl rfl (s_pI (pc := 15) rw_218_15 hG306 rfl (fun M309 W308 => ?_)))
  have hG310 := g_w hG306 W308 (A := 0) rfl (lo := 0) (hi := 3000) rfl rfl (by omega) (by decide)
  have F311 := FR.w F307 W308 (show 77 = 77 ∧ (43 = 42 ∨ 43 = 43) ∨ 94 ≤ 77 ∧ 77 ≤ 98 ∨ 77 = 99 ∨ 77 = 100 ∨ 77 = 109 ∨ 77 = 110 ∨ 77 = 111 by decide)
  refine to_c (pc := 18) rw_218_18 (x := (0 : Int32)) rfl rfl (to_isn (pc := 19) rw_218_19 (ls2 := [.ref 77, .int (0 : Int32), .null]) rfl rfl (to_c (pc := 20) rw_218_20 (x := (0 : Int32)) rfl rfl (to_isn (pc := 21) rw_218_21 (ls2 := [.ref 77, .int (0 : Int32), .int (0 : Int32)]) rfl rfl ?_)))
  have k_312 : (0 : Int32).toInt = 0 := rfl
  have c_313 : M309.2.1 77 44 = (M.2.1 77 44) := (W_n W308 (by decide) (W_n W304 (by decide) (F_n F300 (show ¬ (94 ≤ 77 ∧ 77 ≤ 98) by decide) rfl)))
  have b_314 := g_b hG (a := 77) (i := 44) (lo := 0) (hi := 40) rfl rfl
  have t_315 : (M309.2.1 77 44).toInt = (M.2.1 77 44).toInt := congrArg Int32.toInt c_313
  have c_316 : M309.2.1 77 52 = (M.2.1 77 52) := (W_n W308 (by decide) (W_n W304 (by decide) (F_n F300 (show ¬ (94 ≤ 77 ∧ 77 ≤ 98) by decide) rfl)))
  have t_317 : (M309.2.1 77 52).toInt = (M.2.1 77 52).toInt := congrArg Int32.toInt c_316
  have j_318 := (ST_f (fun a i z => W_n W308 (by /-r77,43-/ omega) rfl) (ST_f (fun a i z => W_n W304 (by /-r77,42-/ omega) rfl) (ST_f (tg_280 F300) q4)))
  have s_319 : LSm M309 ((0 : Int32).toInt).toNat = 0 := rfl
  have j_320 := (AB_f (fun a i z => W_n W308 (by /-r77,43-/ omega) rfl) (AB_f (fun a i z => W_n W304 (by /-r77,42-/ omega) rfl) (AB_f (tg_281 F300) q3)))
  have j_321 := (PS_f (fun a i z => W_n W308 (tg_300 a i z) rfl) (PS_f (fun a i z => W_n W304 (tg_301 a i z) rfl) (PS_f (tg_282 F300) q2)))
  have c_322 : M309.2.1 77 43 = (0 : Int32) := (W_e W308)
  have t_323 : (M309.2.1 77 43).toInt = (0 : Int32).toInt := congrArg Int32.toInt c_322
  exact (T_218_0 hX hd q1 q2 q3 q4 q5 h (((3000 - (M309.2.1 77 43).toInt) * 1000 + LSm M309 ((0 : Int32).toInt).toNat).toNat + 1)) M309 (0 : Int32) (0 : Int32) hG310 F311 (by omega) (by omega) (by omega) (by omega) (by omega) (DK_0 j_318 (by omega)) (fun i z => absurd z (by omega)) j_320 j_321 (by omega)
set_option maxRecDepth 4000 in
set_option maxHeartbeats 0 in
theorem T_219_0 {X : mm_X} {d : Nat} {M : mm_M} {Q : Option Value → mm_M → Prop} {n : Int32} (hX : g_X X) (hd : 5 ≤ d) (q1 : (M.2.1 77 7).toInt ≤ (M.2.1 77 6).toInt) (q2 : FA M) (q3 : WC M) (q4 : NJ M) (q5 : PS M) (q6 : KQ M) (h : ∀ (r : Int32) (M1 : mm_M), g_G M1 → FR md_wk M M1 → ((M1.2.1 77 7).toInt ≤ (M1.2.1 77 6).toInt) → FA M1 → WC M1 → NJ M1 → PS M1 → KQ M1 → (n.toInt < 0 ∨ (M.2.1 77 1).toInt < n.toInt → (M1.2.1 77 1).toInt = (M.2.1 77 1).toInt) → (0 ≤ n.toInt ∧ n.toInt ≤ (M.2.1 77 1).toInt → (M1.2.1 77 1).toInt = 0) → Q (some (.int r)) M1) : ∀ nn9 : Nat, (∀ (N : mm_M) (u1 : Value), g_G N → FR md_wk M N → ((N.2.1 77 7).toInt ≤ (N.2.1 77 6).toInt) → (FA N) → (WC N) → (NJ N) → (PS N) → (KQ N) → (AB N) → (ST N) → ((N.2.1 77 1).toInt = 0) → (0 ≤ n.toInt) → (n.toInt ≤ (M.2.1 77 1).toInt) → 6 * (500 - (N.2.1 77 7).toInt) + (N.2.1 77 8).toInt < (nn9 : Int) → mm_T X d 218 26 [.ref 77, u1] [] N Q) := by
  intro nn9
  induction nn9 with
  | zero =>
    intro N u1 hG F0 g1 g2 g3 g4 g5 g6 g7 g8 g9 g10 g11 hm
    have b_1 := g_b hG (a := 77) (i := 7) (lo := 0) (hi := 500) rfl rfl
    have b_2 := g_b hG (a := 77) (i := 8) (lo := 0) (hi := 5) rfl rfl
    have b_3 := g_b hG (a := 77) (i := 6) (lo := 0) (hi := 500) rfl rfl
    have b_4 := g_b hG (a := 77) (i := 1) (lo := 0) (hi := 500) rfl rfl
    exfalso; omega
  | succ nn9 ih =>
    intro N u1 hG F0 g1 g2 g3 g4 g5 g6 g7 g8 g9 g10 g11 hm
    have b_5 := g_b hG (a := 77) (i := 7) (lo := 0) (hi := 500) rfl rfl
    have b_6 := g_b hG (a := 77) (i := 8) (lo := 0) (hi := 5) rfl rfl
    have b_7 := g_b hG (a := 77) (i := 6) (lo := 0) (hi := 500) rfl rfl
    have b_8 := g_b hG (a := 77) (i := 1) (lo := 0) (hi := 500) rfl rfl
    refine to_an (pc := 26) rw_219_26 rfl (tt_gI (pc := 27) rw_219_27 (g_o hG rfl) (v := (N.2.1 77 8)) rfl (b_ine (pc := 30) rw_219_30 (A := (N.2.1 77 8).toInt) rfl (fun h9 => ?_) (fun h9 => ?_)))
    · refine to_an (pc := 40) rw_219_40 rfl (s_v (pc := 41) rw_219_41 (dp0 hd (by decide)) (ls0 := [.ref 77, .null]) rfl (Nat.le_of_ble_eq_true rfl) (Nat.le_of_ble_eq_true rfl) rfl (to_rc rfl rfl rfl (g_o hG rfl)) rfl (C_215 hX (dp1 hd (by decide)) hG (by omega) g7 g8  (fun r10 M21 hG12 F11 p_13 p_14 p_15 p_16 p_17 p_18 p_19 p_20 => ?_)))
      have F22 := FR.c F0 F11 tg_295
      have b_23 := g_b hG12 (a := 77) (i := 7) (lo := 0) (hi := 500) rfl rfl
      have c_24 : M21.2.1 77 6 = (N.2.1 77 6) := (F_n F11 (show ¬ (77 = 77 ∧ (6 = 4 ∨ 6 = 5 ∨ 7 ≤ 6 ∧ 6 ≤ 10) ∨ 77 = 77 ∧ (6 = 44 ∨ 6 = 52) ∨ 101 ≤ 77 ∧ 77 ≤ 108) by decide) rfl)
      have t_25 : (M21.2.1 77 6).toInt = (N.2.1 77 6).toInt := congrArg Int32.toInt c_24
      have b_26 := g_b hG12 (a := 77) (i := 8) (lo := 0) (hi := 5) rfl rfl
      refine b_ine (pc := 44) rw_219_44 (A := r10.toInt) rfl (fun h27 => ?_) (fun h27 => ?_)
      · have j_28 := (FA_f (tg_283 F11) g2)
        have j_29 := (WC_f (tg_284 F11) g3)
        have j_30 := (NJ_f (tg_285 F11) g4)
        have j_31 := (PS_f (tg_286 F11) g5)
        have j_32 := (KQ_f (tg_287 F11) g6)
        have c_33 : M21.2.1 77 1 = (N.2.1 77 1) := (F_n F11 (show ¬ (77 = 77 ∧ (1 = 4 ∨ 1 = 5 ∨ 7 ≤ 1 ∧ 1 ≤ 10) ∨ 77 = 77 ∧ (1 = 44 ∨ 1 = 52) ∨ 101 ≤ 77 ∧ 77 ≤ 108) by decide) rfl)
        have t_34 : (M21.2.1 77 1).toInt = (N.2.1 77 1).toInt := congrArg Int32.toInt c_33
        exact ih M21 (u1) hG12 F22 (by omega) j_28 j_29 j_30 j_31 j_32 (p_19 (by omega)) (p_20 (by omega)) (by omega) (by omega) (by omega) (by omega)
      · refine to_c (pc := 47) rw_219_47 (x := (-1 : Int32)) rfl rfl (to_r0 (pc := 48) rw_219_48 ?_)
        have k_35 : (-1 : Int32).toInt = -1 := rfl
        have j_36 := (FA_f (tg_283 F11) g2)
        have j_37 := (WC_f (tg_284 F11) g3)
        have j_38 := (NJ_f (tg_285 F11) g4)
        have j_39 := (PS_f (tg_286 F11) g5)
        have j_40 := (KQ_f (tg_287 F11) g6)
        have c_41 : M21.2.1 77 1 = (N.2.1 77 1) := (F_n F11 (show ¬ (77 = 77 ∧ (1 = 4 ∨ 1 = 5 ∨ 7 ≤ 1 ∧ 1 ≤ 10) ∨ 77 = 77 ∧ (1 = 44 ∨ 1 = 52) ∨ 101 ≤ 77 ∧ 77 ≤ 108) by decide) rfl)
        have t_42 : (M21.2.1 77 1).toInt = (N.2.1 77 1).toInt := congrArg Int32.toInt c_41
        exact h (-1 : Int32) M21 hG12 F22 (by omega) j_36 j_37 j_38 j_39 j_40 (by omega) (by omega)
    · refine to_an (pc := 33) rw_219_33 rfl ?_
      have b_43 := g_b hG (a := 77) (i := 52) (lo := 0) (hi := 5) rfl rfl
      refine tt_gI (pc := 34) rw_219_34 (g_o hG rfl) (v := (N.2.1 77 52)) rfl (b_ile (pc := 37) rw_219_37 (A := (N.2.1 77 52).toInt) rfl (fun h44 => ?_) (fun h44 => ?_))
      · refine to_an (pc := 49) rw_219_49 rfl (s_v (pc := 50) rw_219_50 (dp0 hd (by decide)) (ls0 := [.ref 77, .null, .null]) rfl (Nat.le_of_ble_eq_true rfl) (Nat.le_of_ble_eq_true rfl) rfl (to_rc rfl rfl rfl (g_o hG rfl)) rfl (C_218 hX (dp1 hd (by decide)) hG g4 g5 g7 g8 (by omega)  (fun r45 M49 hG47 F46 p_48 => ?_)))
        have F50 := FR.c F0 F46 tg_296
        refine to_r0 (pc := 53) rw_219_53 ?_
        have c_51 : M49.2.1 77 7 = (N.2.1 77 7) := (F_n F46 (show ¬ (77 = 77 ∧ (7 = 42 ∨ 7 = 43) ∨ 94 ≤ 77 ∧ 77 ≤ 98 ∨ 77 = 99 ∨ 77 = 100 ∨ 77 = 109 ∨ 77 = 110 ∨ 77 = 111) by decide) rfl)
        have t_52 : (M49.2.1 77 7).toInt = (N.2.1 77 7).toInt := congrArg Int32.toInt c_51
        have c_53 : M49.2.1 77 6 = (N.2.1 77 6) := (F_n F46 (show ¬ (77 = 77 ∧ (6 = 42 ∨ 6 = 43) ∨ 94 ≤ 77 ∧ 77 ≤ 98 ∨ 77 = 99 ∨ 77 = 100 ∨ 77 = 109 ∨ 77 = 110 ∨ 77 = 111) by decide) rfl)
        have t_54 : (M49.2.1 77 6).toInt = (N.2.1 77 6).toInt := congrArg Int32.toInt c_53
        have j_55 := (FA_f (tg_288 F46) g2)
        have j_56 := (WC_f (tg_289 F46) g3)
        have j_57 := (NJ_f (tg_290 F46) g4)
        have j_58 := (KQ_f (tg_291 F46) g6)
        have c_59 : M49.2.1 77 1 = (N.2.1 77 1) := (F_n F46 (show ¬ (77 = 77 ∧ (1 = 42 ∨ 1 = 43) ∨ 94 ≤ 77 ∧ 77 ≤ 98 ∨ 77 = 99 ∨ 77 = 100 ∨ 77 = 109 ∨ 77 = 110 ∨ 77 = 111) by decide) rfl)
        have t_60 : (M49.2.1 77 1).toInt = (N.2.1 77 1).toInt := congrArg Int32.toInt c_59
        exact h r45 M49 hG47 F50 (by omega) j_55 j_56 j_57 p_48 j_58 (by omega) (by omega)
      · refine to_an (pc := 40) rw_219_40 rfl (s_v (pc := 41) rw_219_41 (dp0 hd (by decide)) (ls0 := [.ref 77, .null]) rfl (Nat.le_of_ble_eq_true rfl) (Nat.le_of_ble_eq_true rfl) rfl (to_rc rfl rfl rfl (g_o hG rfl)) rfl (C_215 hX (dp1 hd (by decide)) hG (by omega) g7 g8  (fun r61 M72 hG63 F62 p_64 p_65 p_66 p_67 p_68 p_69 p_70 p_71 => ?_)))
        have F73 := FR.c F0 F62 tg_295
        have b_74 := g_b hG63 (a := 77) (i := 7) (lo := 0) (hi := 500) rfl rfl
        have c_75 : M72.2.1 77 6 = (N.2.1 77 6) := (F_n F62 (show ¬ (77 = 77 ∧ (6 = 4 ∨ 6 = 5 ∨ 7 ≤ 6 ∧ 6 ≤ 10) ∨ 77 = 77 ∧ (6 = 44 ∨ 6 = 52) ∨ 101 ≤ 77 ∧ 77 ≤ 108) by decide) rfl)
        have t_76 : (M72.2.1 77 6).toInt = (N.2.1 77 6).toInt := congrArg Int32.toInt c_75
        have b_77 := g_b hG63 (a := 77) (i := 8) (lo := 0) (hi := 5) rfl rfl
        refine b_ine (pc := 44) rw_219_44 (A := r61.toInt) rfl (fun h78 => ?_) (fun h78 => ?_)
        · have j_79 := (FA_f (tg_283 F62) g2)
          have j_80 := (WC_f (tg_284 F62) g3)
          have j_81 := (NJ_f (tg_285 F62) g4)
          have j_82 := (PS_f (tg_286 F62) g5)
          have j_83 := (KQ_f (tg_287 F62) g6)
          have c_84 : M72.2.1 77 1 = (N.2.1 77 1) := (F_n F62 (show ¬ (77 = 77 ∧ (1 = 4 ∨ 1 = 5 ∨ 7 ≤ 1 ∧ 1 ≤ 10) ∨ 77 = 77 ∧ (1 = 44 ∨ 1 = 52) ∨ 101 ≤ 77 ∧ 77 ≤ 108) by decide) rfl)
          have t_85 : (M72.2.1 77 1).toInt = (N.2.1 77 1).toInt := congrArg Int32.toInt c_84
          exact ih M72 (u1) hG63 F73 (by omega) j_79 j_80 j_81 j_82 j_83 (p_70 (by omega)) (p_71 (by omega)) (by omega) (by omega) (by omega) (by omega)
        · refine to_c (pc := 47) rw_219_47 (x := (-1 : Int32)) rfl rfl (to_r0 (pc := 48) rw_219_48 ?_)
          have k_86 : (-1 : Int32).toInt = -1 := rfl
          have j_87 := (FA_f (tg_283 F62) g2)
          have j_88 := (WC_f (tg_284 F62) g3)
          have j_89 := (NJ_f (tg_285 F62) g4)
          have j_90 := (PS_f (tg_286 F62) g5)
          have j_91 := (KQ_f (tg_287 F62) g6)
          have c_92 : M72.2.1 77 1 = (N.2.1 77 1) := (F_n F62 (show ¬ (77 = 77 ∧ (1 = 4 ∨ 1 = 5 ∨ 7 ≤ 1 ∧ 1 ≤ 10) ∨ 77 = 77 ∧ (1 = 44 ∨ 1 = 52) ∨ 101 ≤ 77 ∧ 77 ≤ 108) by decide) rfl)
          have t_93 : (M72.2.1 77 1).toInt = (N.2.1 77 1).toInt := congrArg Int32.toInt c_92
          exact h (-1 : Int32) M72 hG63 F73 (by omega) j_87 j_88 j_89 j_90 j_91 (by omega) (by omega)
set_option maxRecDepth 4000 in
set_option maxHeartbeats 0 in
theorem C_219 {X : mm_X} {d : Nat} {M : mm_M} {Q : Option Value → mm_M → Prop} {n : Int32} (hX : g_X X) (hd : 5 ≤ d) (hG : g_G M) (q1 : (M.2.1 77 7).toInt ≤ (M.2.1 77 6).toInt) (q2 : FA M) (q3 : WC M) (q4 : NJ M) (q5 : PS M) (q6 : KQ M) (h : ∀ (r : Int32) (M1 : mm_M), g_G M1 → FR md_wk M M1 → ((M1.2.1 77 7).toInt ≤ (M1.2.1 77 6).toInt) → FA M1 → WC M1 → NJ M1 → PS M1 → KQ M1 → (n.toInt < 0 ∨ (M.2.1 77 1).toInt < n.toInt → (M1.2.1 77 1).toInt = (M.2.1 77 1).toInt) → (0 ≤ n.toInt ∧ n.toInt ≤ (M.2.1 77 1).toInt → (M1.2.1 77 1).toInt = 0) → Q (some (.int r)) M1) : mm_T X d 218 0 [.ref 77, .int n] [] M Q := by
  have F0 : FR md_wk M M := FR.rf
  have b_94 := g_b hG (a := 77) (i := 7) (lo := 0) (hi := 500) rfl rfl
  have b_95 := g_b hG (a := 77) (i := 6) (lo := 0) (hi := 500) rfl rfl
  refine to_an (pc := 0) rw_219_0 rfl (to_c (pc := 1) rw_219_1 (x := (0 : Int32)) rfl rfl (s_pI (pc := 2) rw_219_2 hG rfl (fun M97 W96 => ?_)))
  have hG98 := g_wf hG W96 rfl rfl (by decide)
  have F99 := FR.w F0 W96 (show 77 = 77 ∧ (1 ≤ 2 ∧ 2 ≤ 2 ∨ 4 ≤ 2 ∧ 2 ≤ 10 ∨ 42 ≤ 2 ∧ 2 ≤ 44 ∨ 2 = 52) ∨ 94 ≤ 77 ∧ 77 ≤ 111 by decide)
  refine to_an (pc := 5) rw_219_5 rfl (to_in (pc := 6) rw_219_6 rfl (s_v (pc := 7) rw_219_7 (dp0 hd (by decide)) (ls0 := [.ref 77, .int n]) rfl (Nat.le_of_ble_eq_true rfl) (Nat.le_of_ble_eq_true rfl) rfl (to_rc rfl rfl rfl (g_o hG98 rfl)) rfl ?_))
  have c_100 : M97.2.1 77 1 = (M.2.1 77 1) := (W_n W96 (by decide) rfl)
  have b_101 := g_b hG (a := 77) (i := 1) (lo := 0) (hi := 500) rfl rfl
  have t_102 : (M97.2.1 77 1).toInt = (M.2.1 77 1).toInt := congrArg Int32.toInt c_100
  have c_103 : M97.2.1 77 7 = (M.2.1 77 7) := (W_n W96 (by decide) rfl)
  have t_104 : (M97.2.1 77 7).toInt = (M.2.1 77 7).toInt := congrArg Int32.toInt c_103
  have c_105 : M97.2.1 77 6 = (M.2.1 77 6) := (W_n W96 (by decide) rfl)
  have t_106 : (M97.2.1 77 6).toInt = (M.2.1 77 6).toInt := congrArg Int32.toInt c_105
  refine C_163 hX (dp1 hd (by decide)) hG98 (by omega) (n := n) (fun r107 M115 hG109 F108 p_110 p_111 p_112 p_113 p_114 => ?_)
  have F116 := FR.c F99 F108 tg_297
  have b_117 := g_b hG109 (a := 77) (i := 7) (lo := 0) (hi := 500) rfl rfl
  have b_118 := g_b hG109 (a := 77) (i := 6) (lo := 0) (hi := 500) rfl rfl
  have b_119 := g_b hG109 (a := 77) (i := 1) (lo := 0) (hi := 500) rfl rfl
  refine b_ine (pc := 10) rw_219_10 (A := r107.toInt) rfl (fun h120 => ?_) (fun h120 => ?_)
  · refine to_an (pc := 16) rw_219_16 rfl (to_c (pc := 17) rw_219_17 (x := (0 : Int32)) rfl rfl (s_pI (pc := 18) rw_219_18 hG109 rfl (fun M122 W121 => ?_)))
    have hG123 := g_w hG109 W121 (A := 0) rfl (lo := 0) (hi := 40) rfl rfl (by omega) (by decide)
    have F124 := FR.w F116 W121 (show 77 = 77 ∧ (1 ≤ 44 ∧ 44 ≤ 2 ∨ 4 ≤ 44 ∧ 44 ≤ 10 ∨ 42 ≤ 44 ∧ 44 ≤ 44 ∨ 44 = 52) ∨ 94 ≤ 77 ∧ 77 ≤ 111 by decide)
    refine to_an (pc := 21) rw_219_21 rfl (to_c (pc := 22) rw_219_22 (x := (0 : Int32)) rfl rfl (s_pI (pc := 23) rw_219_23 hG123 rfl (fun M126 W125 => ?_)))
    have hG127 := g_w hG123 W125 (A := 0) rfl (lo := 0) (hi := 5) rfl rfl (by omega) (by decide)
    have F128 := FR.w F124 W125 (show 77 = 77 ∧ (1 ≤ 52 ∧ 52 ≤ 2 ∨ 4 ≤ 52 ∧ 52 ≤ 10 ∨ 42 ≤ 52 ∧ 52 ≤ 44 ∨ 52 = 52) ∨ 94 ≤ 77 ∧ 77 ≤ 111 by decide)
    have c_129 : M126.2.1 77 44 = (0 : Int32) := (W_n W125 (by decide) (W_e W121))
    have k_130 : (0 : Int32).toInt = 0 := rfl
    have t_131 : (M126.2.1 77 44).toInt = (0 : Int32).toInt := congrArg Int32.toInt c_129
    have c_132 : M126.2.1 77 52 = (0 : Int32) := (W_e W125)
    have t_133 : (M126.2.1 77 52).toInt = (0 : Int32).toInt := congrArg Int32.toInt c_132
    have j_134 : AB M126 := AB_0 (by omega)
    have j_135 : ST M126 := ST_0 (by omega) (by omega)
    have c_136 : M126.2.1 77 7 = (M115.2.1 77 7) := (W_n W125 (by decide) (W_n W121 (by decide) rfl))
    have t_137 : (M126.2.1 77 7).toInt = (M115.2.1 77 7).toInt := congrArg Int32.toInt c_136
    have c_138 : M126.2.1 77 6 = (M115.2.1 77 6) := (W_n W125 (by decide) (W_n W121 (by decide) rfl))
    have t_139 : (M126.2.1 77 6).toInt = (M115.2.1 77 6).toInt := congrArg Int32.toInt c_138
    have j_140 := (FA_f (fun a i z => W_n W125 (tg_302 a i z) rfl) (FA_f (fun a i z => W_n W121 (tg_303 a i z) rfl) (FA_f (tg_239 F108) (FA_f (fun a i z => W_n W96 (tg_94 a i z) rfl) q2))))
    have j_141 := (WC_f (fun a i z => W_n W125 (by /-r77,52-/ omega) rfl) (WC_f (fun a i z => W_n W121 (by /-r77,44-/ omega) rfl) (WC_f (tg_241 F108) (WC_f (fun a i z => W_n W96 (by /-r77,2-/ omega) rfl) q3))))
    have j_142 := (NJ_f (fun a i z => W_n W125 (by /-r77,52-/ omega) rfl) (NJ_f (fun a i z => W_n W121 (by /-r77,44-/ omega) rfl) (NJ_f (tg_243 F108) (NJ_f (fun a i z => W_n W96 (by /-r77,2-/ omega) rfl) q4))))
    have j_143 := (PS_f (fun a i z => W_n W125 (tg_304 a i z) rfl) (PS_f (fun a i z => W_n W121 (tg_305 a i z) rfl) (PS_f (tg_245 F108) (PS_f (fun a i z => W_n W96 (tg_259 a i z) rfl) q5))))
    have j_144 := (KQ_f (fun a i z => W_n W125 (by /-r77,52-/ omega) rfl) (KQ_f (fun a i z => W_n W121 (by /-r77,44-/ omega) rfl) (KQ_f (tg_247 F108) (KQ_f (fun a i z => W_n W96 (by /-r77,2-/ omega) rfl) q6))))
    have c_145 : M126.2.1 77 1 = (M115.2.1 77 1) := (W_n W125 (by decide) (W_n W121 (by decide) rfl))
    have t_146 : (M126.2.1 77 1).toInt = (M115.2.1 77 1).toInt := congrArg Int32.toInt c_145
    have c_147 : M126.2.1 77 8 = (M115.2.1 77 8) := (W_n W125 (by decide) (W_n W121 (by decide) rfl))
    have b_148 := g_b hG109 (a := 77) (i := 8) (lo := 0) (hi := 5) rfl rfl
    have t_149 : (M126.2.1 77 8).toInt = (M115.2.1 77 8).toInt := congrArg Int32.toInt c_147
    exact (T_219_0 (n := n) hX hd q1 q2 q3 q4 q5 q6 h ((6 * (500 - (M126.2.1 77 7).toInt) + (M126.2.1 77 8).toInt).toNat + 1)) M126 (.int n) hG127 F128 (by omega) j_140 j_141 j_142 j_143 j_144 j_134 j_135 (by omega) (by omega) (by omega) (by omega)
  · refine to_c (pc := 13) rw_219_13 (x := (-2 : Int32)) rfl rfl (to_r0 (pc := 15) rw_219_15 ?_)
    have k_150 : (-2 : Int32).toInt = -2 := rfl
    have j_151 := (FA_f (tg_239 F108) (FA_f (fun a i z => W_n W96 (tg_94 a i z) rfl) q2))
    have j_152 := (WC_f (tg_241 F108) (WC_f (fun a i z => W_n W96 (by /-r77,2-/ omega) rfl) q3))
    have j_153 := (NJ_f (tg_243 F108) (NJ_f (fun a i z => W_n W96 (by /-r77,2-/ omega) rfl) q4))
    have j_154 := (PS_f (tg_245 F108) (PS_f (fun a i z => W_n W96 (tg_259 a i z) rfl) q5))
    have j_155 := (KQ_f (tg_247 F108) (KQ_f (fun a i z => W_n W96 (by /-r77,2-/ omega) rfl) q6))
    exact h (-2 : Int32) M115 hG109 F116 (by omega) j_151 j_152 j_153 j_154 j_155 (by omega) (by omega)
end
section
theorem tg_306 : ∀ a i : Nat, (a = 77 ∧ (i = 59 ∨ i = 66) ∨ 112 ≤ a ∧ a ≤ 114 ∧ 40 ≤ i ∨ a = 116) → (a = 77 ∧ (i = 59 ∨ i = 65 ∨ i = 66) ∨ 112 ≤ a ∧ a ≤ 114 ∧ 40 ≤ i ∨ a = 116) := fun a i z => by omega
set_option maxRecDepth 4000 in
set_option maxHeartbeats 0 in
theorem C_221 {X : mm_X} {d : Nat} {M : mm_M} {Q : Option Value → mm_M → Prop} {k : Int32} {p : Int32} {o : Int32} (hX : g_X X) (hd : 0 ≤ d) (hG : g_G M) (q1 : 0 ≤ k.toInt) (q2 : k.toInt ≤ 4) (q3 : 0 ≤ p.toInt) (q4 : p.toInt ≤ 39) (q5 : (M.2.1 77 59).toInt ≤ 39) (q6 : (M.2.1 77 66).toInt ≤ 39) (q7 : KN M 40 ((M.2.1 77 59).toInt).toNat) (q8 : k.toInt = 0 → (0 ≤ p.toInt ∧ p.toInt ≤ 7) ∧ 0 ≤ o.toInt ∧ ((M.2.1 81 (p.toInt).toNat).toInt = 0 ∨ o.toInt ≤ 9)) (q9 : k.toInt = 1 → 0 ≤ p.toInt ∧ p.toInt ≤ 11) (q10 : k.toInt = 3 → 0 ≤ o.toInt ∧ o.toInt ≤ 39) (q11 : k.toInt = 4 → 0 ≤ o.toInt ∧ o.toInt ≤ 39) (h : ∀ (M1 : mm_M), g_G M1 → FR md_gr M M1 → ((M1.2.1 77 59).toInt = (M.2.1 77 59).toInt + 1) → ((M1.2.1 77 66).toInt = (M.2.1 77 66).toInt + 1) → (KN M1 40 ((M1.2.1 77 59).toInt).toNat) → Q (none) M1) : mm_T X d 220 0 [.ref 77, .int k, .int p, .int o] [] M Q := by
  have F0 : FR md_gr M M := FR.rf
  have b_1 := g_b hG (a := 77) (i := 59) (lo := 0) (hi := 40) rfl rfl
  have b_2 := g_b hG (a := 77) (i := 66) (lo := 0) (hi := 40) rfl rfl
  refine to_an (pc := 0) rw_221_0 rfl (s_gR (pc := 1) rw_221_1 hG rfl (v := 112) rfl (to_c (pc := 4) rw_221_4 (x := (40 : Int32)) rfl rfl (to_an (pc := 6) rw_221_6 rfl (tt_gI (pc := 7) rw_221_7 (g_o hG rfl) (v := (M.2.1 77 59)) rfl (s_add (pc := 10) rw_221_10 (A := 40) (B := (M.2.1 77 59).toInt) rfl rfl (by omega) (fun v3 e4 => to_in (pc := 11) rw_221_11 rfl (s_ias (pc := 12) rw_221_12 hG rfl (n := 80) rfl (A := v3.toInt) rfl (by omega) (by omega) (fun M6 W5 => ?_))))))))
  have hG7 := g_w hG W5 (A := k.toInt) rfl (lo := 0) (hi := 4) rfl rfl (by omega) (by decide)
  have F8 := FR.w F0 W5 (show 112 = 77 ∧ ((v3.toInt).toNat = 59 ∨ (v3.toInt).toNat = 66) ∨ 112 ≤ 112 ∧ 112 ≤ 114 ∧ 40 ≤ (v3.toInt).toNat ∨ 112 = 116 by omega)
  refine to_an (pc := 13) rw_221_13 rfl (s_gR (pc := 14) rw_221_14 hG7 rfl (v := 113) rfl (to_c (pc := 17) rw_221_17 (x := (40 : Int32)) rfl rfl (to_an (pc := 19) rw_221_19 rfl ?_)))
  have c_9 : M6.2.1 77 59 = (M.2.1 77 59) := (W_n W5 (fun z => absurd z.1 (by decide)) rfl)
  refine tt_gI (pc := 20) rw_221_20 (g_o hG7 rfl) (v := (M.2.1 77 59)) c_9 (s_add (pc := 23) rw_221_23 (A := 40) (B := (M.2.1 77 59).toInt) rfl rfl (by omega) (fun v10 e11 => to_in (pc := 24) rw_221_24 rfl (s_ias (pc := 25) rw_221_25 hG7 rfl (n := 80) rfl (A := v10.toInt) rfl (by omega) (by omega) (fun M13 W12 => ?_))))
  have hG14 := g_w hG7 W12 (A := p.toInt) rfl (lo := 0) (hi := 39) rfl rfl (by omega) (by decide)
  have F15 := FR.w F8 W12 (show 113 = 77 ∧ ((v10.toInt).toNat = 59 ∨ (v10.toInt).toNat = 66) ∨ 112 ≤ 113 ∧ 113 ≤ 114 ∧ 40 ≤ (v10.toInt).toNat ∨ 113 = 116 by omega)
  refine to_an (pc := 26) rw_221_26 rfl (s_gR (pc := 27) rw_221_27 hG14 rfl (v := 114) rfl (to_c (pc := 30) rw_221_30 (x := (40 : Int32)) rfl rfl (to_an (pc := 32) rw_221_32 rfl ?_)))
  have c_16 : M13.2.1 77 59 = (M.2.1 77 59) := (W_n W12 (fun z => absurd z.1 (by decide)) c_9)
  refine tt_gI (pc := 33) rw_221_33 (g_o hG14 rfl) (v := (M.2.1 77 59)) c_16 (s_add (pc := 36) rw_221_36 (A := 40) (B := (M.2.1 77 59).toInt) rfl rfl (by omega) (fun v17 e18 => to_in (pc := 37) rw_221_37 rfl (s_ias (pc := 38) rw_221_38 hG14 rfl (n := 80) rfl (A := v17.toInt) rfl (by omega) (by omega) (fun M20 W19 => ?_))))
  have hG21 := g_wf hG14 W19 rfl rfl (by decide)
  have F22 := FR.w F15 W19 (show 114 = 77 ∧ ((v17.toInt).toNat = 59 ∨ (v17.toInt).toNat = 66) ∨ 112 ≤ 114 ∧ 114 ≤ 114 ∧ 40 ≤ (v17.toInt).toNat ∨ 114 = 116 by omega)
  refine to_an (pc := 39) rw_221_39 rfl (s_gR (pc := 40) rw_221_40 hG21 rfl (v := 116) rfl (to_an (pc := 43) rw_221_43 rfl ?_))
  have c_23 : M20.2.1 77 66 = (M.2.1 77 66) := (W_n W19 (fun z => absurd z.1 (by decide)) (W_n W12 (fun z => absurd z.1 (by decide)) (W_n W5 (fun z => absurd z.1 (by decide)) rfl)))
  refine tt_gI (pc := 44) rw_221_44 (g_o hG21 rfl) (v := (M.2.1 77 66)) c_23 (to_an (pc := 47) rw_221_47 rfl ?_)
  have c_24 : M20.2.1 77 59 = (M.2.1 77 59) := (W_n W19 (fun z => absurd z.1 (by decide)) c_16)
  refine tt_gI (pc := 48) rw_221_48 (g_o hG21 rfl) (v := (M.2.1 77 59)) c_24 (s_ias (pc := 51) rw_221_51 hG21 rfl (n := 64) rfl (A := (M.2.1 77 66).toInt) rfl (by omega) (by omega) (fun M26 W25 => ?_))
  have hG27 := g_w hG21 W25 (A := (M.2.1 77 59).toInt) rfl (lo := 0) (hi := 39) rfl rfl (by omega) (by decide)
  have F28 := FR.w F22 W25 (show 116 = 77 ∧ (((M.2.1 77 66).toInt).toNat = 59 ∨ ((M.2.1 77 66).toInt).toNat = 66) ∨ 112 ≤ 116 ∧ 116 ≤ 114 ∧ 40 ≤ ((M.2.1 77 66).toInt).toNat ∨ 116 = 116 by omega)
  refine to_an (pc := 52) rw_221_52 rfl (to_dupr (pc := 53) rw_221_53 ?_)
  have c_29 : M26.2.1 77 66 = (M.2.1 77 66) := (W_n W25 (fun z => absurd z.1 (by decide)) c_23)
  refine tt_gI (pc := 54) rw_221_54 (g_o hG27 rfl) (v := (M.2.1 77 66)) c_29 (to_c (pc := 57) rw_221_57 (x := (1 : Int32)) rfl rfl (s_add (pc := 58) rw_221_58 (A := (M.2.1 77 66).toInt) (B := 1) rfl rfl (by omega) (fun v30 e31 => s_pI (pc := 59) rw_221_59 hG27 rfl (fun M33 W32 => ?_))))
  have hG34 := g_w hG27 W32 (A := v30.toInt) rfl (lo := 0) (hi := 40) rfl rfl (by omega) (by decide)
  have F35 := FR.w F28 W32 (show 77 = 77 ∧ (66 = 59 ∨ 66 = 66) ∨ 112 ≤ 77 ∧ 77 ≤ 114 ∧ 40 ≤ 66 ∨ 77 = 116 by decide)
  refine to_an (pc := 62) rw_221_62 rfl (to_dupr (pc := 63) rw_221_63 ?_)
  have c_36 : M33.2.1 77 59 = (M.2.1 77 59) := (W_n W32 (by decide) (W_n W25 (fun z => absurd z.1 (by decide)) c_24))
  refine tt_gI (pc := 64) rw_221_64 (g_o hG34 rfl) (v := (M.2.1 77 59)) c_36 (to_c (pc := 67) rw_221_67 (x := (1 : Int32)) rfl rfl (s_add (pc := 68) rw_221_68 (A := (M.2.1 77 59).toInt) (B := 1) rfl rfl (by omega) (fun v37 e38 => s_pI (pc := 69) rw_221_69 hG34 rfl (fun M40 W39 => ?_))))
  have hG41 := g_w hG34 W39 (A := v37.toInt) rfl (lo := 0) (hi := 40) rfl rfl (by omega) (by decide)
  have F42 := FR.w F35 W39 (show 77 = 77 ∧ (59 = 59 ∨ 59 = 66) ∨ 112 ≤ 77 ∧ 77 ≤ 114 ∧ 40 ≤ 59 ∨ 77 = 116 by decide)
  refine to_rv (pc := 72) rw_221_72 ?_
  have c_43 : M40.2.1 77 59 = v37 := (W_e W39)
  have t_44 : (M40.2.1 77 59).toInt = v37.toInt := congrArg Int32.toInt c_43
  have c_45 : M40.2.1 77 66 = v30 := (W_n W39 (by decide) (W_e W32))
  have t_46 : (M40.2.1 77 66).toInt = v30.toInt := congrArg Int32.toInt c_45
  have j_47 : M40.2.1 112 (40 + ((M.2.1 77 59).toInt).toNat) = k := by rw [show 40 + ((M.2.1 77 59).toInt).toNat = (v3.toInt).toNat by omega]; exact (W_n W39 (by omega) (W_n W32 (by omega) (W_n W25 (by omega) (W_n W19 (by omega) (W_n W12 (by omega) (W_e W5))))))
  have j_48 : M40.2.1 113 (40 + ((M.2.1 77 59).toInt).toNat) = p := by rw [show 40 + ((M.2.1 77 59).toInt).toNat = (v10.toInt).toNat by omega]; exact (W_n W39 (by omega) (W_n W32 (by omega) (W_n W25 (by omega) (W_n W19 (by omega) (W_e W12)))))
  have j_49 : M40.2.1 114 (40 + ((M.2.1 77 59).toInt).toNat) = o := by rw [show 40 + ((M.2.1 77 59).toInt).toNat = (v17.toInt).toNat by omega]; exact (W_n W39 (by omega) (W_n W32 (by omega) (W_n W25 (by omega) (W_e W19))))
  exact h M40 hG41 F42 (by omega) (by omega) (by rw [show ((M40.2.1 77 59).toInt).toNat = ((M.2.1 77 59).toInt).toNat + 1 by omega]; exact KN_k (M1 := M40) q7 (fun a i z => (W_n W39 (by /-r77,59-/ omega) (W_n W32 (by /-r77,66-/ omega) (W_n W25 (by /-r116-/ omega) (W_n W19 (by /-r114-/ omega) (W_n W12 (by /-r113-/ omega) (W_n W5 (by /-r112-/ omega) rfl))))))) j_47 j_48 j_49 q8 q9 q10 q11)
set_option maxRecDepth 4000 in
set_option maxHeartbeats 0 in
theorem T_223_0 {X : mm_X} {d : Nat} {M : mm_M} {Q : Option Value → mm_M → Prop} {l : Int32} (hX : g_X X) (hd : 1 ≤ d) (q1 : 1 ≤ l.toInt) (q2 : l.toInt ≤ 3) (q3 : (M.2.1 77 68).toInt = 1) (q4 : QK M) (h : ∀ (M1 : mm_M), g_G M1 → FR md_bi M M1 → QK M1 → ((M1.2.1 77 59).toInt + Wo M1 ((M1.2.1 77 65).toInt).toNat = (M.2.1 77 59).toInt + Wo M ((M.2.1 77 65).toInt).toNat) → (l.toInt = 1 → (M1.2.1 77 65).toInt = 0 ∨ ((M1.2.1 115 (((M1.2.1 77 65).toInt).toNat - 1)).toInt = 0 ∨ (M1.2.1 115 (((M1.2.1 77 65).toInt).toNat - 1)).toInt = 1)) → Q (none) M1) : ∀ nn9 : Nat, (∀ (N : mm_M) (u2 : Value) (u3 : Value) (u4 : Value), g_G N → FR md_bi M N → ((N.2.1 77 68).toInt = 1) → (QK N) → ((N.2.1 77 59).toInt + Wo N ((N.2.1 77 65).toInt).toNat = (M.2.1 77 59).toInt + Wo M ((M.2.1 77 65).toInt).toNat) → (N.2.1 77 65).toInt < (nn9 : Int) → mm_T X d 222 0 [.ref 77, .int l, u2, u3, u4] [] N Q) := by
  intro nn9
  induction nn9 with
  | zero =>
    intro N u2 u3 u4 hG F0 g1 g2 g3 hm
    have b_1 := g_b hG (a := 77) (i := 65) (lo := 0) (hi := 48) rfl rfl
    have b_2 := g_b hG (a := 77) (i := 68) (lo := 0) (hi := 1) rfl rfl
    exfalso; omega
  | succ nn9 ih =>
    intro N u2 u3 u4 hG F0 g1 g2 g3 hm
    have b_3 := g_b hG (a := 77) (i := 65) (lo := 0) (hi := 48) rfl rfl
    have b_4 := g_b hG (a := 77) (i := 68) (lo := 0) (hi := 1) rfl rfl
    have b_5 := g_b hG (a := 77) (i := 59) (lo := 0) (hi := 40) rfl rfl
    have b_6 := g_b hG (a := 77) (i := 66) (lo := 0) (hi := 40) rfl rfl
    have b_7 := g_b hG (a := 77) (i := 67) (lo := 0) (hi := 8) rfl rfl
    have b_8 := g_b hG (a := 77) (i := 69) (lo := 0) (hi := 40) rfl rfl
    have s_q := QK_e g2
    have s_w := Wx_b N ((N.2.1 77 65).toInt).toNat
    refine to_an (pc := 0) rw_223_0 rfl (tt_gI (pc := 1) rw_223_1 (g_o hG rfl) (v := (N.2.1 77 65)) rfl (b_ile (pc := 4) rw_223_4 (A := (N.2.1 77 65).toInt) rfl (fun h9 => ?_) (fun h9 => ?_)))
    · refine to_rv (pc := 77) rw_223_77 ?_
      exact h N hG F0 g2 g3 (fun _ => Or.inl (by omega))
    · refine to_an (pc := 7) rw_223_7 rfl (to_an (pc := 8) rw_223_8 rfl (s_gR (pc := 9) rw_223_9 hG rfl (v := 115) rfl (to_an (pc := 12) rw_223_12 rfl (tt_gI (pc := 13) rw_223_13 (g_o hG rfl) (v := (N.2.1 77 65)) rfl (to_c (pc := 16) rw_223_16 (x := (1 : Int32)) rfl rfl (s_sub (pc := 17) rw_223_17 (A := (N.2.1 77 65).toInt) (B := 1) rfl rfl (by omega) (fun v10 e11 => s_ial (pc := 18) rw_223_18 hG rfl (n := 64) rfl rfl (A := v10.toInt) rfl (by omega) (by omega) (lo := 0) (hi := 4) rfl rfl (fun v12 w_13 _ _ => ?_))))))))
      have t_14 := congrArg Int32.toInt w_13
      have s_s := Wx_s N (v10.toInt).toNat
      rw [show (v10.toInt).toNat + 1 = ((N.2.1 77 65).toInt).toNat by omega, w_13] at s_s
      have s_b := Wx_b N (v10.toInt).toNat
      have s_1 := g2.2.1 (v10.toInt).toNat (by omega)
      rw [w_13] at s_1
      refine s_v (pc := 19) rw_223_19 (dp0 hd (by decide)) (ls0 := [.ref 77, .int v12]) rfl (Nat.le_of_ble_eq_true rfl) (Nat.le_of_ble_eq_true rfl) rfl (to_rc rfl rfl rfl (g_o hG rfl)) rfl (to_in (pc := 0) rw_220_0 rfl (to_c (pc := 1) rw_220_1 (x := (2 : Int32)) rfl rfl (b_cne (pc := 2) rw_220_2 (A := v12.toInt) (B := 2) rfl rfl (fun h15 => ?_) (fun h15 => ?_))))
      · refine to_in (pc := 9) rw_220_9 rfl (to_c (pc := 10) rw_220_10 (x := (3 : Int32)) rfl rfl (b_cne (pc := 11) rw_220_11 (A := v12.toInt) (B := 3) rfl rfl (fun h16 => ?_) (fun h16 => ?_)))
        · refine to_in (pc := 18) rw_220_18 rfl (to_c (pc := 19) rw_220_19 (x := (4 : Int32)) rfl rfl (b_cne (pc := 20) rw_220_20 (A := v12.toInt) (B := 4) rfl rfl (fun h17 => ?_) (fun h17 => ?_)))
          · refine to_c (pc := 27) rw_220_27 (x := (0 : Int32)) rfl rfl (to_r0 (pc := 28) rw_220_28 (to_in (pc := 22) rw_223_22 rfl (b_clt_t (pc := 23) rw_223_23 (A := 0) (B := l.toInt) rfl rfl (by omega) (to_rv (pc := 77) rw_223_77 ?_))))
            exact h N hG F0 g2 g3 (fun zl => Or.inr (by rw [show ((N.2.1 77 65).toInt).toNat - 1 = (v10.toInt).toNat by omega, w_13]; omega))
          · refine to_c (pc := 23) rw_220_23 (x := (1 : Int32)) rfl rfl (to_go (pc := 24) rw_220_24 (to_r0 (pc := 28) rw_220_28 (to_in (pc := 22) rw_223_22 rfl (b_clt (pc := 23) rw_223_23 (A := 1) (B := l.toInt) rfl rfl (fun h18 => ?_) (fun h18 => ?_)))))
            · refine to_rv (pc := 77) rw_223_77 ?_
              exact h N hG F0 g2 g3 (fun zl => Or.inr (by rw [show ((N.2.1 77 65).toInt).toNat - 1 = (v10.toInt).toNat by omega, w_13]; omega))
            · refine to_an (pc := 26) rw_223_26 rfl (to_dupr (pc := 27) rw_223_27 (tt_gI (pc := 28) rw_223_28 (g_o hG rfl) (v := (N.2.1 77 65)) rfl (to_c (pc := 31) rw_223_31 (x := (1 : Int32)) rfl rfl (s_subk (pc := 32) rw_223_32 (A := (N.2.1 77 65).toInt) (B := 1) rfl rfl (by omega) (v := v10) e11 (s_pI (pc := 33) rw_223_33 hG rfl (fun M22 W21 => ?_))))))
              have hG23 := g_w hG W21 (A := v10.toInt) rfl (lo := 0) (hi := 48) rfl rfl (by omega) (by decide)
              have F24 := FR.w F0 W21 (show 77 = 77 ∧ (65 = 59 ∨ 65 = 65 ∨ 65 = 66) ∨ 112 ≤ 77 ∧ 77 ≤ 114 ∧ 40 ≤ 65 ∨ 77 = 116 by decide)
              refine to_an (pc := 36) rw_223_36 rfl (s_gR (pc := 37) rw_223_37 hG23 rfl (v := 115) rfl (to_an (pc := 40) rw_223_40 rfl ?_))
              have c_25 : M22.2.1 77 65 = v10 := (W_e W21)
              refine tt_gI (pc := 41) rw_223_41 (g_o hG23 rfl) (v := v10) c_25 (s_ialk (pc := 44) rw_223_44 hG23 rfl (n := 64) rfl rfl (A := v10.toInt) rfl (by omega) (by omega) (v := v12) (W_n W21 (by omega) w_13) (to_isn (pc := 45) rw_223_45 (ls2 := [.ref 77, .int l, .int v12, u3, u4]) rfl rfl (to_in (pc := 46) rw_223_46 rfl (to_c (pc := 47) rw_223_47 (x := (2 : Int32)) rfl rfl (b_cne_t (pc := 48) rw_223_48 (A := v12.toInt) (B := 2) rfl rfl (by omega) (to_an (pc := 55) rw_223_55 rfl (s_v (pc := 56) rw_223_56 (dp0 hd (by decide)) (ls0 := [.ref 77]) rfl (Nat.le_of_ble_eq_true rfl) (Nat.le_of_ble_eq_true rfl) rfl (to_rc rfl rfl rfl (g_o hG23 rfl)) rfl (to_an (pc := 0) rw_222_0 rfl (to_dupr (pc := 1) rw_222_1 ?_)))))))))
              have c_28 : M22.2.1 77 66 = (N.2.1 77 66) := (W_n W21 (by decide) rfl)
              refine tt_gI (pc := 2) rw_222_2 (g_o hG23 rfl) (v := (N.2.1 77 66)) c_28 (to_c (pc := 5) rw_222_5 (x := (1 : Int32)) rfl rfl (s_sub (pc := 6) rw_222_6 (A := (N.2.1 77 66).toInt) (B := 1) rfl rfl (by omega) (fun v29 e30 => s_pI (pc := 7) rw_222_7 hG23 rfl (fun M32 W31 => ?_))))
              have hG33 := g_w hG23 W31 (A := v29.toInt) rfl (lo := 0) (hi := 40) rfl rfl (by omega) (by decide)
              have F34 := FR.w F24 W31 (show 77 = 77 ∧ (66 = 59 ∨ 66 = 65 ∨ 66 = 66) ∨ 112 ≤ 77 ∧ 77 ≤ 114 ∧ 40 ≤ 66 ∨ 77 = 116 by decide)
              refine to_an (pc := 10) rw_222_10 rfl (s_gR (pc := 11) rw_222_11 hG33 rfl (v := 116) rfl (to_an (pc := 14) rw_222_14 rfl ?_))
              have c_35 : M32.2.1 77 66 = v29 := (W_e W31)
              refine tt_gI (pc := 15) rw_222_15 (g_o hG33 rfl) (v := v29) c_35 (s_ial (pc := 18) rw_222_18 hG33 rfl (n := 64) rfl rfl (A := v29.toInt) rfl (by omega) (by omega) (lo := 0) (hi := 39) rfl rfl (fun v36 w_37 _ _ => to_r0 (pc := 19) rw_222_19 (to_isn (pc := 59) rw_223_59 (ls2 := [.ref 77, .int l, .int v12, .int v36, u4]) rfl rfl (to_an (pc := 60) rw_223_60 rfl (s_v (pc := 61) rw_223_61 (dp0 hd (by decide)) (ls0 := [.ref 77]) rfl (Nat.le_of_ble_eq_true rfl) (Nat.le_of_ble_eq_true rfl) rfl (to_rc rfl rfl rfl (g_o hG33 rfl)) rfl (to_an (pc := 0) rw_222_0 rfl (to_dupr (pc := 1) rw_222_1 (tt_gI (pc := 2) rw_222_2 (g_o hG33 rfl) (v := v29) c_35 (to_c (pc := 5) rw_222_5 (x := (1 : Int32)) rfl rfl (s_sub (pc := 6) rw_222_6 (A := v29.toInt) (B := 1) rfl rfl (by omega) (fun v38 e39 => s_pI (pc := 7) rw_222_7 hG33 rfl (fun M41 W40 => ?_))))))))))))
              have hG42 := g_w hG33 W40 (A := v38.toInt) rfl (lo := 0) (hi := 40) rfl rfl (by omega) (by decide)
              have F43 := FR.w F34 W40 (show 77 = 77 ∧ (66 = 59 ∨ 66 = 65 ∨ 66 = 66) ∨ 112 ≤ 77 ∧ 77 ≤ 114 ∧ 40 ≤ 66 ∨ 77 = 116 by decide)
              refine to_an (pc := 10) rw_222_10 rfl (s_gR (pc := 11) rw_222_11 hG42 rfl (v := 116) rfl (to_an (pc := 14) rw_222_14 rfl ?_))
              have c_44 : M41.2.1 77 66 = v38 := (W_e W40)
              refine tt_gI (pc := 15) rw_222_15 (g_o hG42 rfl) (v := v38) c_44 (s_ial (pc := 18) rw_222_18 hG42 rfl (n := 64) rfl rfl (A := v38.toInt) rfl (by omega) (by omega) (lo := 0) (hi := 39) rfl rfl (fun v45 w_46 _ _ => to_r0 (pc := 19) rw_222_19 (to_is (pc := 64) rw_223_64 (ls2 := [.ref 77, .int l, .int v12, .int v36, .int v45]) rfl rfl (to_an (pc := 66) rw_223_66 rfl (to_in (pc := 67) rw_223_67 rfl (to_i (pc := 68) rw_223_68 rfl (to_in (pc := 70) rw_223_70 rfl (s_v (pc := 71) rw_223_71 (dp0 hd (by decide)) (ls0 := [.ref 77, .int v12, .int v45, .int v36]) rfl (Nat.le_of_ble_eq_true rfl) (Nat.le_of_ble_eq_true rfl) rfl (to_rc rfl rfl rfl (g_o hG42 rfl)) rfl ?_))))))))
              have c_47 : M41.2.1 77 59 = (N.2.1 77 59) := (W_n W40 (by decide) (W_n W31 (by decide) (W_n W21 (by decide) rfl)))
              have t_48 : (M41.2.1 77 59).toInt = (N.2.1 77 59).toInt := congrArg Int32.toInt c_47
              have t_49 : (M41.2.1 77 66).toInt = v38.toInt := congrArg Int32.toInt c_44
              refine C_221 hX (dp1 hd (by decide)) hG42 (by omega) (by omega) (by omega) (by omega) (by omega) (by omega) (by rw [(W_n W40 (by omega) (W_n W31 (by omega) (W_n W21 (by omega) rfl)))]; exact KN_f (fun a i z => (W_n W40 (by /-r77,66-/ omega) (W_n W31 (by /-r77,66-/ omega) (W_n W21 (by /-r77,65-/ omega) rfl)))) g2.2.2) (by omega) (by omega) (by omega) (by omega) (k := v12) (p := v45) (o := v36) (fun M55 hG51 F50 p_52 p_53 p_54 => ?_)
              have F56 := FR.c F43 F50 tg_306
              have b_57 := g_b hG51 (a := 77) (i := 59) (lo := 0) (hi := 40) rfl rfl
              have b_58 := g_b hG51 (a := 77) (i := 66) (lo := 0) (hi := 40) rfl rfl
              have s_59 := Wx_f (M := N) (M1 := M55) (v10.toInt).toNat (fun i z => (F_n F50 (show ¬ (115 = 77 ∧ (i = 59 ∨ i = 66) ∨ 112 ≤ 115 ∧ 115 ≤ 114 ∧ 40 ≤ i ∨ 115 = 116) by omega) (W_n W40 (by omega) (W_n W31 (by omega) (W_n W21 (by omega) rfl)))))
              have c_62 : M55.2.1 77 65 = v10 := (F_n F50 (show ¬ (77 = 77 ∧ (65 = 59 ∨ 65 = 66) ∨ 112 ≤ 77 ∧ 77 ≤ 114 ∧ 40 ≤ 65 ∨ 77 = 116) by decide) (W_n W40 (by decide) (W_n W31 (by decide) c_25)))
              have t_63 : (M55.2.1 77 65).toInt = v10.toInt := congrArg Int32.toInt c_62
              have c_64 : M55.2.1 77 67 = (N.2.1 77 67) := (F_n F50 (show ¬ (77 = 77 ∧ (67 = 59 ∨ 67 = 66) ∨ 112 ≤ 77 ∧ 77 ≤ 114 ∧ 40 ≤ 67 ∨ 77 = 116) by decide) (W_n W40 (by decide) (W_n W31 (by decide) (W_n W21 (by decide) rfl))))
              have t_65 : (M55.2.1 77 67).toInt = (N.2.1 77 67).toInt := congrArg Int32.toInt c_64
              have c_66 : M55.2.1 77 68 = (N.2.1 77 68) := (F_n F50 (show ¬ (77 = 77 ∧ (68 = 59 ∨ 68 = 66) ∨ 112 ≤ 77 ∧ 77 ≤ 114 ∧ 40 ≤ 68 ∨ 77 = 116) by decide) (W_n W40 (by decide) (W_n W31 (by decide) (W_n W21 (by decide) rfl))))
              have t_67 : (M55.2.1 77 68).toInt = (N.2.1 77 68).toInt := congrArg Int32.toInt c_66
              have c_68 : M55.2.1 77 69 = (N.2.1 77 69) := (F_n F50 (show ¬ (77 = 77 ∧ (69 = 59 ∨ 69 = 66) ∨ 112 ≤ 77 ∧ 77 ≤ 114 ∧ 40 ≤ 69 ∨ 77 = 116) by decide) (W_n W40 (by decide) (W_n W31 (by decide) (W_n W21 (by decide) rfl))))
              have t_69 : (M55.2.1 77 69).toInt = (N.2.1 77 69).toInt := congrArg Int32.toInt c_68
              have j_61 : QK M55 := QK_i (by unfold QK_c; rw [show ((M55.2.1 77 65).toInt).toNat = (v10.toInt).toNat by omega]; refine ⟨by omega, by omega, by omega, by omega⟩) (fun i z => by rw [(F_n F50 (show ¬ (115 = 77 ∧ (i = 59 ∨ i = 66) ∨ 112 ≤ 115 ∧ 115 ≤ 114 ∧ 40 ≤ i ∨ 115 = 116) by omega) (W_n W40 (by omega) (W_n W31 (by omega) (W_n W21 (by omega) rfl))))]; exact g2.2.1 i (by omega)) p_54
              refine to_go (pc := 74) rw_223_74 ?_
              have s_70 : Wo M55 ((M55.2.1 77 65).toInt).toNat = Wo M55 (v10.toInt).toNat := by rw [show ((M55.2.1 77 65).toInt).toNat = (v10.toInt).toNat by omega]
              exact ih M55 (.int v12) (.int v36) (.int v45) hG51 F56 (by omega) j_61 (by omega) (by omega)
        · refine to_c (pc := 14) rw_220_14 (x := (2 : Int32)) rfl rfl (to_go (pc := 15) rw_220_15 (to_r0 (pc := 28) rw_220_28 (to_in (pc := 22) rw_223_22 rfl (b_clt (pc := 23) rw_223_23 (A := 2) (B := l.toInt) rfl rfl (fun h71 => ?_) (fun h71 => ?_)))))
          · refine to_rv (pc := 77) rw_223_77 ?_
            exact h N hG F0 g2 g3 (fun zl => Or.inr (by rw [show ((N.2.1 77 65).toInt).toNat - 1 = (v10.toInt).toNat by omega, w_13]; omega))
          · refine to_an (pc := 26) rw_223_26 rfl (to_dupr (pc := 27) rw_223_27 (tt_gI (pc := 28) rw_223_28 (g_o hG rfl) (v := (N.2.1 77 65)) rfl (to_c (pc := 31) rw_223_31 (x := (1 : Int32)) rfl rfl (s_subk (pc := 32) rw_223_32 (A := (N.2.1 77 65).toInt) (B := 1) rfl rfl (by omega) (v := v10) e11 (s_pI (pc := 33) rw_223_33 hG rfl (fun M75 W74 => ?_))))))
            have hG76 := g_w hG W74 (A := v10.toInt) rfl (lo := 0) (hi := 48) rfl rfl (by omega) (by decide)
            have F77 := FR.w F0 W74 (show 77 = 77 ∧ (65 = 59 ∨ 65 = 65 ∨ 65 = 66) ∨ 112 ≤ 77 ∧ 77 ≤ 114 ∧ 40 ≤ 65 ∨ 77 = 116 by decide)
            refine to_an (pc := 36) rw_223_36 rfl (s_gR (pc := 37) rw_223_37 hG76 rfl (v := 115) rfl (to_an (pc := 40) rw_223_40 rfl ?_))
            have c_78 : M75.2.1 77 65 = v10 := (W_e W74)
            refine tt_gI (pc := 41) rw_223_41 (g_o hG76 rfl) (v := v10) c_78 (s_ialk (pc := 44) rw_223_44 hG76 rfl (n := 64) rfl rfl (A := v10.toInt) rfl (by omega) (by omega) (v := v12) (W_n W74 (by omega) w_13) (to_isn (pc := 45) rw_223_45 (ls2 := [.ref 77, .int l, .int v12, u3, u4]) rfl rfl (to_in (pc := 46) rw_223_46 rfl (to_c (pc := 47) rw_223_47 (x := (2 : Int32)) rfl rfl (b_cne_t (pc := 48) rw_223_48 (A := v12.toInt) (B := 2) rfl rfl (by omega) (to_an (pc := 55) rw_223_55 rfl (s_v (pc := 56) rw_223_56 (dp0 hd (by decide)) (ls0 := [.ref 77]) rfl (Nat.le_of_ble_eq_true rfl) (Nat.le_of_ble_eq_true rfl) rfl (to_rc rfl rfl rfl (g_o hG76 rfl)) rfl (to_an (pc := 0) rw_222_0 rfl (to_dupr (pc := 1) rw_222_1 ?_)))))))))
            have c_81 : M75.2.1 77 66 = (N.2.1 77 66) := (W_n W74 (by decide) rfl)
            refine tt_gI (pc := 2) rw_222_2 (g_o hG76 rfl) (v := (N.2.1 77 66)) c_81 (to_c (pc := 5) rw_222_5 (x := (1 : Int32)) rfl rfl (s_sub (pc := 6) rw_222_6 (A := (N.2.1 77 66).toInt) (B := 1) rfl rfl (by omega) (fun v82 e83 => s_pI (pc := 7) rw_222_7 hG76 rfl (fun M85 W84 => ?_))))
            have hG86 := g_w hG76 W84 (A := v82.toInt) rfl (lo := 0) (hi := 40) rfl rfl (by omega) (by decide)
            have F87 := FR.w F77 W84 (show 77 = 77 ∧ (66 = 59 ∨ 66 = 65 ∨ 66 = 66) ∨ 112 ≤ 77 ∧ 77 ≤ 114 ∧ 40 ≤ 66 ∨ 77 = 116 by decide)
            refine to_an (pc := 10) rw_222_10 rfl (s_gR (pc := 11) rw_222_11 hG86 rfl (v := 116) rfl (to_an (pc := 14) rw_222_14 rfl ?_))
            have c_88 : M85.2.1 77 66 = v82 := (W_e W84)
            refine tt_gI (pc := 15) rw_222_15 (g_o hG86 rfl) (v := v82) c_88 (s_ial (pc := 18) rw_222_18 hG86 rfl (n := 64) rfl rfl (A := v82.toInt) rfl (by omega) (by omega) (lo := 0) (hi := 39) rfl rfl (fun v89 w_90 _ _ => to_r0 (pc := 19) rw_222_19 (to_isn (pc := 59) rw_223_59 (ls2 := [.ref 77, .int l, .int v12, .int v89, u4]) rfl rfl (to_an (pc := 60) rw_223_60 rfl (s_v (pc := 61) rw_223_61 (dp0 hd (by decide)) (ls0 := [.ref 77]) rfl (Nat.le_of_ble_eq_true rfl) (Nat.le_of_ble_eq_true rfl) rfl (to_rc rfl rfl rfl (g_o hG86 rfl)) rfl (to_an (pc := 0) rw_222_0 rfl (to_dupr (pc := 1) rw_222_1 (tt_gI (pc := 2) rw_222_2 (g_o hG86 rfl) (v := v82) c_88 (to_c (pc := 5) rw_222_5 (x := (1 : Int32)) rfl rfl (s_sub (pc := 6) rw_222_6 (A := v82.toInt) (B := 1) rfl rfl (by omega) (fun v91 e92 => s_pI (pc := 7) rw_222_7 hG86 rfl (fun M94 W93 => ?_))))))))))))
            have hG95 := g_w hG86 W93 (A := v91.toInt) rfl (lo := 0) (hi := 40) rfl rfl (by omega) (by decide)
            have F96 := FR.w F87 W93 (show 77 = 77 ∧ (66 = 59 ∨ 66 = 65 ∨ 66 = 66) ∨ 112 ≤ 77 ∧ 77 ≤ 114 ∧ 40 ≤ 66 ∨ 77 = 116 by decide)
            refine to_an (pc := 10) rw_222_10 rfl (s_gR (pc := 11) rw_222_11 hG95 rfl (v := 116) rfl (to_an (pc := 14) rw_222_14 rfl ?_))
            have c_97 : M94.2.1 77 66 = v91 := (W_e W93)
            refine tt_gI (pc := 15) rw_222_15 (g_o hG95 rfl) (v := v91) c_97 (s_ial (pc := 18) rw_222_18 hG95 rfl (n := 64) rfl rfl (A := v91.toInt) rfl (by omega) (by omega) (lo := 0) (hi := 39) rfl rfl (fun v98 w_99 _ _ => to_r0 (pc := 19) rw_222_19 (to_is (pc := 64) rw_223_64 (ls2 := [.ref 77, .int l, .int v12, .int v89, .int v98]) rfl rfl (to_an (pc := 66) rw_223_66 rfl (to_in (pc := 67) rw_223_67 rfl (to_i (pc := 68) rw_223_68 rfl (to_in (pc := 70) rw_223_70 rfl (s_v (pc := 71) rw_223_71 (dp0 hd (by decide)) (ls0 := [.ref 77, .int v12, .int v98, .int v89]) rfl (Nat.le_of_ble_eq_true rfl) (Nat.le_of_ble_eq_true rfl) rfl (to_rc rfl rfl rfl (g_o hG95 rfl)) rfl ?_))))))))
            have c_100 : M94.2.1 77 59 = (N.2.1 77 59) := (W_n W93 (by decide) (W_n W84 (by decide) (W_n W74 (by decide) rfl)))
            have t_101 : (M94.2.1 77 59).toInt = (N.2.1 77 59).toInt := congrArg Int32.toInt c_100
            have t_102 : (M94.2.1 77 66).toInt = v91.toInt := congrArg Int32.toInt c_97
            refine C_221 hX (dp1 hd (by decide)) hG95 (by omega) (by omega) (by omega) (by omega) (by omega) (by omega) (by rw [(W_n W93 (by omega) (W_n W84 (by omega) (W_n W74 (by omega) rfl)))]; exact KN_f (fun a i z => (W_n W93 (by /-r77,66-/ omega) (W_n W84 (by /-r77,66-/ omega) (W_n W74 (by /-r77,65-/ omega) rfl)))) g2.2.2) (by omega) (by omega) (by omega) (by omega) (k := v12) (p := v98) (o := v89) (fun M108 hG104 F103 p_105 p_106 p_107 => ?_)
            have F109 := FR.c F96 F103 tg_306
            have b_110 := g_b hG104 (a := 77) (i := 59) (lo := 0) (hi := 40) rfl rfl
            have b_111 := g_b hG104 (a := 77) (i := 66) (lo := 0) (hi := 40) rfl rfl
            have s_112 := Wx_f (M := N) (M1 := M108) (v10.toInt).toNat (fun i z => (F_n F103 (show ¬ (115 = 77 ∧ (i = 59 ∨ i = 66) ∨ 112 ≤ 115 ∧ 115 ≤ 114 ∧ 40 ≤ i ∨ 115 = 116) by omega) (W_n W93 (by omega) (W_n W84 (by omega) (W_n W74 (by omega) rfl)))))
            have c_115 : M108.2.1 77 65 = v10 := (F_n F103 (show ¬ (77 = 77 ∧ (65 = 59 ∨ 65 = 66) ∨ 112 ≤ 77 ∧ 77 ≤ 114 ∧ 40 ≤ 65 ∨ 77 = 116) by decide) (W_n W93 (by decide) (W_n W84 (by decide) c_78)))
            have t_116 : (M108.2.1 77 65).toInt = v10.toInt := congrArg Int32.toInt c_115
            have c_117 : M108.2.1 77 67 = (N.2.1 77 67) := (F_n F103 (show ¬ (77 = 77 ∧ (67 = 59 ∨ 67 = 66) ∨ 112 ≤ 77 ∧ 77 ≤ 114 ∧ 40 ≤ 67 ∨ 77 = 116) by decide) (W_n W93 (by decide) (W_n W84 (by decide) (W_n W74 (by decide) rfl))))
            have t_118 : (M108.2.1 77 67).toInt = (N.2.1 77 67).toInt := congrArg Int32.toInt c_117
            have c_119 : M108.2.1 77 68 = (N.2.1 77 68) := (F_n F103 (show ¬ (77 = 77 ∧ (68 = 59 ∨ 68 = 66) ∨ 112 ≤ 77 ∧ 77 ≤ 114 ∧ 40 ≤ 68 ∨ 77 = 116) by decide) (W_n W93 (by decide) (W_n W84 (by decide) (W_n W74 (by decide) rfl))))
            have t_120 : (M108.2.1 77 68).toInt = (N.2.1 77 68).toInt := congrArg Int32.toInt c_119
            have c_121 : M108.2.1 77 69 = (N.2.1 77 69) := (F_n F103 (show ¬ (77 = 77 ∧ (69 = 59 ∨ 69 = 66) ∨ 112 ≤ 77 ∧ 77 ≤ 114 ∧ 40 ≤ 69 ∨ 77 = 116) by decide) (W_n W93 (by decide) (W_n W84 (by decide) (W_n W74 (by decide) rfl))))
            have t_122 : (M108.2.1 77 69).toInt = (N.2.1 77 69).toInt := congrArg Int32.toInt c_121
            have j_114 : QK M108 := QK_i (by unfold QK_c; rw [show ((M108.2.1 77 65).toInt).toNat = (v10.toInt).toNat by omega]; refine ⟨by omega, by omega, by omega, by omega⟩) (fun i z => by rw [(F_n F103 (show ¬ (115 = 77 ∧ (i = 59 ∨ i = 66) ∨ 112 ≤ 115 ∧ 115 ≤ 114 ∧ 40 ≤ i ∨ 115 = 116) by omega) (W_n W93 (by omega) (W_n W84 (by omega) (W_n W74 (by omega) rfl))))]; exact g2.2.1 i (by omega)) p_107
            refine to_go (pc := 74) rw_223_74 ?_
            have s_123 : Wo M108 ((M108.2.1 77 65).toInt).toNat = Wo M108 (v10.toInt).toNat := by rw [show ((M108.2.1 77 65).toInt).toNat = (v10.toInt).toNat by omega]
            exact ih M108 (.int v12) (.int v89) (.int v98) hG104 F109 (by omega) j_114 (by omega) (by omega)
      · refine to_c (pc := 5) rw_220_5 (x := (3 : Int32)) rfl rfl (to_go (pc := 6) rw_220_6 (to_r0 (pc := 28) rw_220_28 (to_in (pc := 22) rw_223_22 rfl (b_clt_f (pc := 23) rw_223_23 (A := 3) (B := l.toInt) rfl rfl (by omega) (to_an (pc := 26) rw_223_26 rfl (to_dupr (pc := 27) rw_223_27 (tt_gI (pc := 28) rw_223_28 (g_o hG rfl) (v := (N.2.1 77 65)) rfl (to_c (pc := 31) rw_223_31 (x := (1 : Int32)) rfl rfl (s_subk (pc := 32) rw_223_32 (A := (N.2.1 77 65).toInt) (B := 1) rfl rfl (by omega) (v := v10) e11 (s_pI (pc := 33) rw_223_33 hG rfl (fun M127 W126 => ?_)))))))))))
        have hG128 := g_w hG W126 (A := v10.toInt) rfl (lo := 0) (hi := 48) rfl rfl (by omega) (by decide)
        have F129 := FR.w F0 W126 (show 77 = 77 ∧ (65 = 59 ∨ 65 = 65 ∨ 65 = 66) ∨ 112 ≤ 77 ∧ 77 ≤ 114 ∧ 40 ≤ 65 ∨ 77 = 116 by decide)
        refine to_an (pc := 36) rw_223_36 rfl (s_gR (pc := 37) rw_223_37 hG128 rfl (v := 115) rfl (to_an (pc := 40) rw_223_40 rfl ?_))
        have c_130 : M127.2.1 77 65 = v10 := (W_e W126)
        refine tt_gI (pc := 41) rw_223_41 (g_o hG128 rfl) (v := v10) c_130 (s_ialk (pc := 44) rw_223_44 hG128 rfl (n := 64) rfl rfl (A := v10.toInt) rfl (by omega) (by omega) (v := v12) (W_n W126 (by omega) w_13) (to_isn (pc := 45) rw_223_45 (ls2 := [.ref 77, .int l, .int v12, u3, u4]) rfl rfl (to_in (pc := 46) rw_223_46 rfl (to_c (pc := 47) rw_223_47 (x := (2 : Int32)) rfl rfl (b_cne_f (pc := 48) rw_223_48 (A := v12.toInt) (B := 2) rfl rfl (by omega) (to_c (pc := 51) rw_223_51 (x := (-1 : Int32)) rfl rfl (to_go (pc := 52) rw_223_52 (to_isn (pc := 59) rw_223_59 (ls2 := [.ref 77, .int l, .int v12, .int (-1 : Int32), u4]) rfl rfl (to_an (pc := 60) rw_223_60 rfl (s_v (pc := 61) rw_223_61 (dp0 hd (by decide)) (ls0 := [.ref 77]) rfl (Nat.le_of_ble_eq_true rfl) (Nat.le_of_ble_eq_true rfl) rfl (to_rc rfl rfl rfl (g_o hG128 rfl)) rfl (to_an (pc := 0) rw_222_0 rfl ?_)))))))))))
        refine to_dupr (pc := 1) rw_222_1 ?_
        have c_133 : M127.2.1 77 66 = (N.2.1 77 66) := (W_n W126 (by decide) rfl)
        refine tt_gI (pc := 2) rw_222_2 (g_o hG128 rfl) (v := (N.2.1 77 66)) c_133 (to_c (pc := 5) rw_222_5 (x := (1 : Int32)) rfl rfl (s_sub (pc := 6) rw_222_6 (A := (N.2.1 77 66).toInt) (B := 1) rfl rfl (by omega) (fun v134 e135 => s_pI (pc := 7) rw_222_7 hG128 rfl (fun M137 W136 => ?_))))
        have hG138 := g_w hG128 W136 (A := v134.toInt) rfl (lo := 0) (hi := 40) rfl rfl (by omega) (by decide)
        have F139 := FR.w F129 W136 (show 77 = 77 ∧ (66 = 59 ∨ 66 = 65 ∨ 66 = 66) ∨ 112 ≤ 77 ∧ 77 ≤ 114 ∧ 40 ≤ 66 ∨ 77 = 116 by decide)
        refine to_an (pc := 10) rw_222_10 rfl (s_gR (pc := 11) rw_222_11 hG138 rfl (v := 116) rfl (to_an (pc := 14) rw_222_14 rfl ?_))
        have c_140 : M137.2.1 77 66 = v134 := (W_e W136)
        refine tt_gI (pc := 15) rw_222_15 (g_o hG138 rfl) (v := v134) c_140 (s_ial (pc := 18) rw_222_18 hG138 rfl (n := 64) rfl rfl (A := v134.toInt) rfl (by omega) (by omega) (lo := 0) (hi := 39) rfl rfl (fun v141 w_142 _ _ => to_r0 (pc := 19) rw_222_19 (to_is (pc := 64) rw_223_64 (ls2 := [.ref 77, .int l, .int v12, .int (-1 : Int32), .int v141]) rfl rfl (to_an (pc := 66) rw_223_66 rfl (to_in (pc := 67) rw_223_67 rfl (to_i (pc := 68) rw_223_68 rfl (to_in (pc := 70) rw_223_70 rfl (s_v (pc := 71) rw_223_71 (dp0 hd (by decide)) (ls0 := [.ref 77, .int v12, .int v141, .int (-1 : Int32)]) rfl (Nat.le_of_ble_eq_true rfl) (Nat.le_of_ble_eq_true rfl) rfl (to_rc rfl rfl rfl (g_o hG138 rfl)) rfl ?_))))))))
        have k_143 : (-1 : Int32).toInt = -1 := rfl
        have c_144 : M137.2.1 77 59 = (N.2.1 77 59) := (W_n W136 (by decide) (W_n W126 (by decide) rfl))
        have t_145 : (M137.2.1 77 59).toInt = (N.2.1 77 59).toInt := congrArg Int32.toInt c_144
        have t_146 : (M137.2.1 77 66).toInt = v134.toInt := congrArg Int32.toInt c_140
        refine C_221 hX (dp1 hd (by decide)) hG138 (by omega) (by omega) (by omega) (by omega) (by omega) (by omega) (by rw [(W_n W136 (by omega) (W_n W126 (by omega) rfl))]; exact KN_f (fun a i z => (W_n W136 (by /-r77,66-/ omega) (W_n W126 (by /-r77,65-/ omega) rfl))) g2.2.2) (by omega) (by omega) (by omega) (by omega) (k := v12) (p := v141) (o := (-1 : Int32)) (fun M152 hG148 F147 p_149 p_150 p_151 => ?_)
        have F153 := FR.c F139 F147 tg_306
        have b_154 := g_b hG148 (a := 77) (i := 59) (lo := 0) (hi := 40) rfl rfl
        have b_155 := g_b hG148 (a := 77) (i := 66) (lo := 0) (hi := 40) rfl rfl
        have s_156 := Wx_f (M := N) (M1 := M152) (v10.toInt).toNat (fun i z => (F_n F147 (show ¬ (115 = 77 ∧ (i = 59 ∨ i = 66) ∨ 112 ≤ 115 ∧ 115 ≤ 114 ∧ 40 ≤ i ∨ 115 = 116) by omega) (W_n W136 (by omega) (W_n W126 (by omega) rfl))))
        have c_159 : M152.2.1 77 65 = v10 := (F_n F147 (show ¬ (77 = 77 ∧ (65 = 59 ∨ 65 = 66) ∨ 112 ≤ 77 ∧ 77 ≤ 114 ∧ 40 ≤ 65 ∨ 77 = 116) by decide) (W_n W136 (by decide) c_130))
        have t_160 : (M152.2.1 77 65).toInt = v10.toInt := congrArg Int32.toInt c_159
        have c_161 : M152.2.1 77 67 = (N.2.1 77 67) := (F_n F147 (show ¬ (77 = 77 ∧ (67 = 59 ∨ 67 = 66) ∨ 112 ≤ 77 ∧ 77 ≤ 114 ∧ 40 ≤ 67 ∨ 77 = 116) by decide) (W_n W136 (by decide) (W_n W126 (by decide) rfl)))
        have t_162 : (M152.2.1 77 67).toInt = (N.2.1 77 67).toInt := congrArg Int32.toInt c_161
        have c_163 : M152.2.1 77 68 = (N.2.1 77 68) := (F_n F147 (show ¬ (77 = 77 ∧ (68 = 59 ∨ 68 = 66) ∨ 112 ≤ 77 ∧ 77 ≤ 114 ∧ 40 ≤ 68 ∨ 77 = 116) by decide) (W_n W136 (by decide) (W_n W126 (by decide) rfl)))
        have t_164 : (M152.2.1 77 68).toInt = (N.2.1 77 68).toInt := congrArg Int32.toInt c_163
        have c_165 : M152.2.1 77 69 = (N.2.1 77 69) := (F_n F147 (show ¬ (77 = 77 ∧ (69 = 59 ∨ 69 = 66) ∨ 112 ≤ 77 ∧ 77 ≤ 114 ∧ 40 ≤ 69 ∨ 77 = 116) by decide) (W_n W136 (by decide) (W_n W126 (by decide) rfl)))
        have t_166 : (M152.2.1 77 69).toInt = (N.2.1 77 69).toInt := congrArg Int32.toInt c_165
        have j_158 : QK M152 := QK_i (by unfold QK_c; rw [show ((M152.2.1 77 65).toInt).toNat = (v10.toInt).toNat by omega]; refine ⟨by omega, by omega, by omega, by omega⟩) (fun i z => by rw [(F_n F147 (show ¬ (115 = 77 ∧ (i = 59 ∨ i = 66) ∨ 112 ≤ 115 ∧ 115 ≤ 114 ∧ 40 ≤ i ∨ 115 = 116) by omega) (W_n W136 (by omega) (W_n W126 (by omega) rfl)))]; exact g2.2.1 i (by omega)) p_151
        refine to_go (pc := 74) rw_223_74 ?_
        have s_167 : Wo M152 ((M152.2.1 77 65).toInt).toNat = Wo M152 (v10.toInt).toNat := by rw [show ((M152.2.1 77 65).toInt).toNat = (v10.toInt).toNat by omega]
        exact ih M152 (.int v12) (.int (-1 : Int32)) (.int v141) hG148 F153 (by omega) j_158 (by omega) (by omega)
set_option maxRecDepth 4000 in
set_option maxHeartbeats 0 in
theorem C_223 {X : mm_X} {d : Nat} {M : mm_M} {Q : Option Value → mm_M → Prop} {l : Int32} (hX : g_X X) (hd : 1 ≤ d) (hG : g_G M) (q1 : 1 ≤ l.toInt) (q2 : l.toInt ≤ 3) (q3 : (M.2.1 77 68).toInt = 1) (q4 : QK M) (h : ∀ (M1 : mm_M), g_G M1 → FR md_bi M M1 → QK M1 → ((M1.2.1 77 59).toInt + Wo M1 ((M1.2.1 77 65).toInt).toNat = (M.2.1 77 59).toInt + Wo M ((M.2.1 77 65).toInt).toNat) → (l.toInt = 1 → (M1.2.1 77 65).toInt = 0 ∨ ((M1.2.1 115 (((M1.2.1 77 65).toInt).toNat - 1)).toInt = 0 ∨ (M1.2.1 115 (((M1.2.1 77 65).toInt).toNat - 1)).toInt = 1)) → Q (none) M1) : mm_T X d 222 0 [.ref 77, .int l, .null, .null, .null] [] M Q := by
  have F0 : FR md_bi M M := FR.rf
  have b_168 := g_b hG (a := 77) (i := 68) (lo := 0) (hi := 1) rfl rfl
  have b_169 := g_b hG (a := 77) (i := 59) (lo := 0) (hi := 40) rfl rfl
  have b_170 := g_b hG (a := 77) (i := 65) (lo := 0) (hi := 48) rfl rfl
  have b_171 := g_b hG (a := 77) (i := 66) (lo := 0) (hi := 40) rfl rfl
  have b_172 := g_b hG (a := 77) (i := 67) (lo := 0) (hi := 8) rfl rfl
  have b_173 := g_b hG (a := 77) (i := 69) (lo := 0) (hi := 40) rfl rfl
  have s_q := QK_e q4
  have s_w := Wx_b M ((M.2.1 77 65).toInt).toNat
  exact (T_223_0 (l := l) hX hd q1 q2 q3 q4 h (((M.2.1 77 65).toInt).toNat + 1)) M (.null) (.null) (.null) hG F0 (by omega) q4 rfl (by omega)
end
section
theorem tg_307 : ∀ a i : Nat, (a = 77 ∧ (i = 59 ∨ i = 65 ∨ i = 66) ∨ 112 ≤ a ∧ a ≤ 114 ∧ 40 ≤ i ∨ a = 116) → (a = 77 ∧ (i = 4 ∨ i = 5 ∨ 7 ≤ i ∧ i ≤ 10) ∨ a = 77 ∧ (i = 59 ∨ 65 ≤ i ∧ i ≤ 69) ∨ 112 ≤ a ∧ a ≤ 114 ∧ 40 ≤ i ∨ a = 115 ∨ a = 116) := fun a i z => by omega
theorem tg_308 : ∀ a i : Nat, (a = 77 ∧ 7 ≤ i ∧ i ≤ 10) → (a = 77 ∧ (i = 4 ∨ i = 5 ∨ 7 ≤ i ∧ i ≤ 10) ∨ a = 77 ∧ (i = 59 ∨ 65 ≤ i ∧ i ≤ 69) ∨ 112 ≤ a ∧ a ≤ 114 ∧ 40 ≤ i ∨ a = 115 ∨ a = 116) := fun a i z => by omega
set_option maxRecDepth 4000 in
set_option maxHeartbeats 0 in
theorem C_226 {X : mm_X} {d : Nat} {M : mm_M} {Q : Option Value → mm_M → Prop} (hX : g_X X) (hd : 2 ≤ d) (hG : g_G M) (q1 : (M.2.1 77 7).toInt ≤ (M.2.1 77 6).toInt) (q2 : QK M) (q3 : (M.2.1 77 68).toInt = 1) (h : ∀ (r : Int32) (M1 : mm_M), g_G M1 → FR md_qr M M1 → (0 ≤ r.toInt) → (r.toInt ≤ 1) → ((M1.2.1 77 7).toInt ≤ (M1.2.1 77 6).toInt) → ((M.2.1 77 7).toInt ≤ (M1.2.1 77 7).toInt) → (r.toInt = 1 → (M1.2.1 77 8).toInt = 0 ∨ (M.2.1 77 7).toInt < (M1.2.1 77 7).toInt) → (r.toInt = 1 → ¬ (M.2.1 77 8).toInt = 0) → (r.toInt = 1 → QK M1) → Q (some (.int r)) M1) : mm_T X d 225 0 [.ref 77, .null] [] M Q := by
  have F0 : FR md_qr M M := FR.rf
  have b_1 := g_b hG (a := 77) (i := 7) (lo := 0) (hi := 500) rfl rfl
  have b_2 := g_b hG (a := 77) (i := 6) (lo := 0) (hi := 500) rfl rfl
  have b_3 := g_b hG (a := 77) (i := 68) (lo := 0) (hi := 1) rfl rfl
  have b_4 := g_b hG (a := 77) (i := 59) (lo := 0) (hi := 40) rfl rfl
  have b_5 := g_b hG (a := 77) (i := 65) (lo := 0) (hi := 48) rfl rfl
  have b_6 := g_b hG (a := 77) (i := 66) (lo := 0) (hi := 40) rfl rfl
  have b_7 := g_b hG (a := 77) (i := 67) (lo := 0) (hi := 8) rfl rfl
  have b_8 := g_b hG (a := 77) (i := 69) (lo := 0) (hi := 40) rfl rfl
  have s_9 := QK_e q2
  have s_10 := Wx_b M ((M.2.1 77 65).toInt).toNat
  refine to_an (pc := 0) rw_226_0 rfl (to_c (pc := 1) rw_226_1 (x := (12 : Int32)) rfl rfl (s_v (pc := 3) rw_226_3 (dp0 hd (by decide)) (ls0 := [.ref 77, .int (12 : Int32)]) rfl (Nat.le_of_ble_eq_true rfl) (Nat.le_of_ble_eq_true rfl) rfl (to_rc rfl rfl rfl (g_o hG rfl)) rfl (to_an (pc := 0) rw_158_0 rfl ?_)))
  have b_11 := g_b hG (a := 77) (i := 8) (lo := 0) (hi := 5) rfl rfl
  refine tt_gI (pc := 1) rw_158_1 (g_o hG rfl) (v := (M.2.1 77 8)) rfl (to_c (pc := 4) rw_158_4 (x := (1 : Int32)) rfl rfl (b_cne (pc := 5) rw_158_5 (A := (M.2.1 77 8).toInt) (B := 1) rfl rfl (fun h12 => ?_) (fun h12 => ?_)))
  · refine to_c (pc := 20) rw_158_20 (x := (0 : Int32)) rfl rfl (s_r1 (pc := 21) rw_158_21 (A := 0) rfl (by decide) (b_ine_f (pc := 6) rw_226_6 (A := 0) rfl (by decide) (to_an (pc := 9) rw_226_9 rfl (to_c (pc := 10) rw_226_10 (x := (13 : Int32)) rfl rfl (s_v (pc := 12) rw_226_12 (dp0 hd (by decide)) (ls0 := [.ref 77, .int (13 : Int32)]) rfl (Nat.le_of_ble_eq_true rfl) (Nat.le_of_ble_eq_true rfl) rfl (to_rc rfl rfl rfl (g_o hG rfl)) rfl (to_an (pc := 0) rw_158_0 rfl (tt_gI (pc := 1) rw_158_1 (g_o hG rfl) (v := (M.2.1 77 8)) rfl (to_c (pc := 4) rw_158_4 (x := (1 : Int32)) rfl rfl (b_cne (pc := 5) rw_158_5 (A := (M.2.1 77 8).toInt) (B := 1) rfl rfl (fun h13 => ?_) (fun h13 => ?_))))))))))
    · refine to_c (pc := 20) rw_158_20 (x := (0 : Int32)) rfl rfl (s_r1 (pc := 21) rw_158_21 (A := 0) rfl (by decide) (b_ieq_t (pc := 15) rw_226_15 (A := 0) rfl (by decide) (to_an (pc := 82) rw_226_82 rfl (to_c (pc := 83) rw_226_83 (x := (41 : Int32)) rfl rfl (s_v (pc := 85) rw_226_85 (dp0 hd (by decide)) (ls0 := [.ref 77, .int (41 : Int32)]) rfl (Nat.le_of_ble_eq_true rfl) (Nat.le_of_ble_eq_true rfl) rfl (to_rc rfl rfl rfl (g_o hG rfl)) rfl (to_an (pc := 0) rw_159_0 rfl (tt_gI (pc := 1) rw_159_1 (g_o hG rfl) (v := (M.2.1 77 8)) rfl (to_c (pc := 4) rw_159_4 (x := (4 : Int32)) rfl rfl (b_cne (pc := 5) rw_159_5 (A := (M.2.1 77 8).toInt) (B := 4) rfl rfl (fun h14 => ?_) (fun h14 => ?_))))))))))
      · refine to_c (pc := 20) rw_159_20 (x := (0 : Int32)) rfl rfl (s_r1 (pc := 21) rw_159_21 (A := 0) rfl (by decide) (b_ieq_t (pc := 88) rw_226_88 (A := 0) rfl (by decide) (to_an (pc := 98) rw_226_98 rfl (to_c (pc := 99) rw_226_99 (x := (1 : Int32)) rfl rfl (s_v (pc := 100) rw_226_100 (dp0 hd (by decide)) (ls0 := [.ref 77, .int (1 : Int32)]) rfl (Nat.le_of_ble_eq_true rfl) (Nat.le_of_ble_eq_true rfl) rfl (to_rc rfl rfl rfl (g_o hG rfl)) rfl (to_an (pc := 0) rw_152_0 rfl (to_in (pc := 1) rw_152_1 rfl (s_pI (pc := 2) rw_152_2 hG rfl (fun M16 W15 => ?_)))))))))
        have hG17 := g_wf hG W15 rfl rfl (by decide)
        have F18 := FR.w F0 W15 (show 77 = 77 ∧ (4 = 4 ∨ 4 = 5 ∨ 7 ≤ 4 ∧ 4 ≤ 10) ∨ 77 = 77 ∧ (4 = 59 ∨ 65 ≤ 4 ∧ 4 ≤ 69) ∨ 112 ≤ 77 ∧ 77 ≤ 114 ∧ 40 ≤ 4 ∨ 77 = 115 ∨ 77 = 116 by decide)
        refine to_an (pc := 5) rw_152_5 rfl (to_an (pc := 6) rw_152_6 rfl ?_)
        have c_19 : M16.2.1 77 10 = (M.2.1 77 10) := (W_n W15 (by decide) rfl)
        have b_20 := g_b hG (a := 77) (i := 10) (lo := 0) (hi := 500) rfl rfl
        refine tt_gI (pc := 7) rw_152_7 (g_o hG17 rfl) (v := (M.2.1 77 10)) c_19 (s_pI (pc := 10) rw_152_10 hG17 rfl (fun M22 W21 => ?_))
        have hG23 := g_wf hG17 W21 rfl rfl (by decide)
        have F24 := FR.w F18 W21 (show 77 = 77 ∧ (5 = 4 ∨ 5 = 5 ∨ 7 ≤ 5 ∧ 5 ≤ 10) ∨ 77 = 77 ∧ (5 = 59 ∨ 65 ≤ 5 ∧ 5 ≤ 69) ∨ 112 ≤ 77 ∧ 77 ≤ 114 ∧ 40 ≤ 5 ∨ 77 = 115 ∨ 77 = 116 by decide)
        refine to_c (pc := 13) rw_152_13 (x := (0 : Int32)) rfl rfl (s_r1 (pc := 14) rw_152_14 (A := 0) rfl (by decide) (s_r1 (pc := 103) rw_226_103 (A := 0) rfl (by decide) ?_))
        have k_25 : (0 : Int32).toInt = 0 := rfl
        have c_26 : M22.2.1 77 7 = (M.2.1 77 7) := (W_n W21 (by decide) (W_n W15 (by decide) rfl))
        have t_27 : (M22.2.1 77 7).toInt = (M.2.1 77 7).toInt := congrArg Int32.toInt c_26
        have c_28 : M22.2.1 77 6 = (M.2.1 77 6) := (W_n W21 (by decide) (W_n W15 (by decide) rfl))
        have t_29 : (M22.2.1 77 6).toInt = (M.2.1 77 6).toInt := congrArg Int32.toInt c_28
        have c_30 : M22.2.1 77 8 = (M.2.1 77 8) := (W_n W21 (by decide) (W_n W15 (by decide) rfl))
        have t_31 : (M22.2.1 77 8).toInt = (M.2.1 77 8).toInt := congrArg Int32.toInt c_30
        exact h (0 : Int32) M22 hG23 F24 (by decide) (by decide) (by omega) (by omega) (by omega) (by omega) (fun z => absurd z (by omega))
      · refine to_an (pc := 8) rw_159_8 rfl (tt_gI (pc := 9) rw_159_9 (g_o hG rfl) (v := (M.2.1 77 9)) rfl (to_in (pc := 12) rw_159_12 rfl (b_cne (pc := 13) rw_159_13 (A := (M.2.1 77 9).toInt) (B := 41) rfl rfl (fun h32 => ?_) (fun h32 => ?_))))
        · refine to_c (pc := 20) rw_159_20 (x := (0 : Int32)) rfl rfl (s_r1 (pc := 21) rw_159_21 (A := 0) rfl (by decide) (b_ieq_t (pc := 88) rw_226_88 (A := 0) rfl (by decide) (to_an (pc := 98) rw_226_98 rfl (to_c (pc := 99) rw_226_99 (x := (1 : Int32)) rfl rfl (s_v (pc := 100) rw_226_100 (dp0 hd (by decide)) (ls0 := [.ref 77, .int (1 : Int32)]) rfl (Nat.le_of_ble_eq_true rfl) (Nat.le_of_ble_eq_true rfl) rfl (to_rc rfl rfl rfl (g_o hG rfl)) rfl (to_an (pc := 0) rw_152_0 rfl (to_in (pc := 1) rw_152_1 rfl (s_pI (pc := 2) rw_152_2 hG rfl (fun M34 W33 => ?_)))))))))
          have hG35 := g_wf hG W33 rfl rfl (by decide)
          have F36 := FR.w F0 W33 (show 77 = 77 ∧ (4 = 4 ∨ 4 = 5 ∨ 7 ≤ 4 ∧ 4 ≤ 10) ∨ 77 = 77 ∧ (4 = 59 ∨ 65 ≤ 4 ∧ 4 ≤ 69) ∨ 112 ≤ 77 ∧ 77 ≤ 114 ∧ 40 ≤ 4 ∨ 77 = 115 ∨ 77 = 116 by decide)
          refine to_an (pc := 5) rw_152_5 rfl (to_an (pc := 6) rw_152_6 rfl ?_)
          have c_37 : M34.2.1 77 10 = (M.2.1 77 10) := (W_n W33 (by decide) rfl)
          have b_38 := g_b hG (a := 77) (i := 10) (lo := 0) (hi := 500) rfl rfl
          refine tt_gI (pc := 7) rw_152_7 (g_o hG35 rfl) (v := (M.2.1 77 10)) c_37 (s_pI (pc := 10) rw_152_10 hG35 rfl (fun M40 W39 => ?_))
          have hG41 := g_wf hG35 W39 rfl rfl (by decide)
          have F42 := FR.w F36 W39 (show 77 = 77 ∧ (5 = 4 ∨ 5 = 5 ∨ 7 ≤ 5 ∧ 5 ≤ 10) ∨ 77 = 77 ∧ (5 = 59 ∨ 65 ≤ 5 ∧ 5 ≤ 69) ∨ 112 ≤ 77 ∧ 77 ≤ 114 ∧ 40 ≤ 5 ∨ 77 = 115 ∨ 77 = 116 by decide)
          refine to_c (pc := 13) rw_152_13 (x := (0 : Int32)) rfl rfl (s_r1 (pc := 14) rw_152_14 (A := 0) rfl (by decide) (s_r1 (pc := 103) rw_226_103 (A := 0) rfl (by decide) ?_))
          have k_43 : (0 : Int32).toInt = 0 := rfl
          have c_44 : M40.2.1 77 7 = (M.2.1 77 7) := (W_n W39 (by decide) (W_n W33 (by decide) rfl))
          have t_45 : (M40.2.1 77 7).toInt = (M.2.1 77 7).toInt := congrArg Int32.toInt c_44
          have c_46 : M40.2.1 77 6 = (M.2.1 77 6) := (W_n W39 (by decide) (W_n W33 (by decide) rfl))
          have t_47 : (M40.2.1 77 6).toInt = (M.2.1 77 6).toInt := congrArg Int32.toInt c_46
          have c_48 : M40.2.1 77 8 = (M.2.1 77 8) := (W_n W39 (by decide) (W_n W33 (by decide) rfl))
          have t_49 : (M40.2.1 77 8).toInt = (M.2.1 77 8).toInt := congrArg Int32.toInt c_48
          exact h (0 : Int32) M40 hG41 F42 (by decide) (by decide) (by omega) (by omega) (by omega) (by omega) (fun z => absurd z (by omega))
        · refine to_c (pc := 16) rw_159_16 (x := (1 : Int32)) rfl rfl (to_go (pc := 17) rw_159_17 (s_r1 (pc := 21) rw_159_21 (A := 1) rfl (by decide) (b_ieq_f (pc := 88) rw_226_88 (A := 1) rfl (by decide) (to_an (pc := 91) rw_226_91 rfl (tt_gI (pc := 92) rw_226_92 (g_o hG rfl) (v := (M.2.1 77 67)) rfl (b_ine (pc := 95) rw_226_95 (A := (M.2.1 77 67).toInt) rfl (fun h50 => ?_) (fun h50 => ?_)))))))
          · refine to_an (pc := 104) rw_226_104 rfl (to_c (pc := 105) rw_226_105 (x := (1 : Int32)) rfl rfl (s_v (pc := 106) rw_226_106 (dp0 hd (by decide)) (ls0 := [.ref 77, .int (1 : Int32), .null, .null, .null]) rfl (Nat.le_of_ble_eq_true rfl) (Nat.le_of_ble_eq_true rfl) rfl (to_rc rfl rfl rfl (g_o hG rfl)) rfl ?_))
            have k_51 : (1 : Int32).toInt = 1 := rfl
            refine C_223 hX (dp1 hd (by decide)) hG (by omega) (by omega) (by omega) q2 (l := (1 : Int32)) (fun M58 hG54 F53 p_55 p_56 p_57 => ?_)
            have F59 := FR.c F0 F53 tg_307
            have s_60 := p_56
            have b_61 := g_b hG54 (a := 77) (i := 59) (lo := 0) (hi := 40) rfl rfl
            have b_62 := g_b hG54 (a := 77) (i := 65) (lo := 0) (hi := 48) rfl rfl
            have b_63 := g_b hG54 (a := 77) (i := 66) (lo := 0) (hi := 40) rfl rfl
            have c_64 : M58.2.1 77 67 = (M.2.1 77 67) := (F_n F53 (show ¬ (77 = 77 ∧ (67 = 59 ∨ 67 = 65 ∨ 67 = 66) ∨ 112 ≤ 77 ∧ 77 ≤ 114 ∧ 40 ≤ 67 ∨ 77 = 116) by decide) rfl)
            have t_65 : (M58.2.1 77 67).toInt = (M.2.1 77 67).toInt := congrArg Int32.toInt c_64
            have c_66 : M58.2.1 77 68 = (M.2.1 77 68) := (F_n F53 (show ¬ (77 = 77 ∧ (68 = 59 ∨ 68 = 65 ∨ 68 = 66) ∨ 112 ≤ 77 ∧ 77 ≤ 114 ∧ 40 ≤ 68 ∨ 77 = 116) by decide) rfl)
            have t_67 : (M58.2.1 77 68).toInt = (M.2.1 77 68).toInt := congrArg Int32.toInt c_66
            have c_68 : M58.2.1 77 69 = (M.2.1 77 69) := (F_n F53 (show ¬ (77 = 77 ∧ (69 = 59 ∨ 69 = 65 ∨ 69 = 66) ∨ 112 ≤ 77 ∧ 77 ≤ 114 ∧ 40 ≤ 69 ∨ 77 = 116) by decide) rfl)
            have t_69 : (M58.2.1 77 69).toInt = (M.2.1 77 69).toInt := congrArg Int32.toInt c_68
            have s_70 := QK_e p_55
            have s_71 := Wx_b M58 ((M58.2.1 77 65).toInt).toNat
            have s_t := p_57 rfl
            have s_n := p_55.2.1 (((M58.2.1 77 65).toInt).toNat - 1)
            have s_s := Wx_s M58 (((M58.2.1 77 65).toInt).toNat - 1)
            have s_p : 1 ≤ (M58.2.1 77 65).toInt := by omega
            rw [show ((M58.2.1 77 65).toInt).toNat - 1 + 1 = ((M58.2.1 77 65).toInt).toNat by omega] at s_s
            have s_n := s_n (by omega)
            have s_z : (M58.2.1 115 (((M58.2.1 77 65).toInt).toNat - 1)).toInt = 0 := by omega
            have s_s := s_s.1 s_z
            refine to_an (pc := 109) rw_226_109 rfl (to_dupr (pc := 110) rw_226_110 (tt_gI (pc := 111) rw_226_111 (g_o hG54 rfl) (v := (M58.2.1 77 65)) rfl (to_c (pc := 114) rw_226_114 (x := (1 : Int32)) rfl rfl (s_sub (pc := 115) rw_226_115 (A := (M58.2.1 77 65).toInt) (B := 1) rfl rfl (by omega) (fun v72 e73 => s_pI (pc := 116) rw_226_116 hG54 rfl (fun M75 W74 => ?_))))))
            have hG76 := g_w hG54 W74 (A := v72.toInt) rfl (lo := 0) (hi := 48) rfl rfl (by omega) (by decide)
            have F77 := FR.w F59 W74 (show 77 = 77 ∧ (65 = 4 ∨ 65 = 5 ∨ 7 ≤ 65 ∧ 65 ≤ 10) ∨ 77 = 77 ∧ (65 = 59 ∨ 65 ≤ 65 ∧ 65 ≤ 69) ∨ 112 ≤ 77 ∧ 77 ≤ 114 ∧ 40 ≤ 65 ∨ 77 = 115 ∨ 77 = 116 by decide)
            refine to_an (pc := 119) rw_226_119 rfl (to_dupr (pc := 120) rw_226_120 ?_)
            have c_78 : M75.2.1 77 67 = (M.2.1 77 67) := (W_n W74 (by decide) c_64)
            refine tt_gI (pc := 121) rw_226_121 (g_o hG76 rfl) (v := (M.2.1 77 67)) c_78 (to_c (pc := 124) rw_226_124 (x := (1 : Int32)) rfl rfl (s_sub (pc := 125) rw_226_125 (A := (M.2.1 77 67).toInt) (B := 1) rfl rfl (by omega) (fun v79 e80 => s_pI (pc := 126) rw_226_126 hG76 rfl (fun M82 W81 => ?_))))
            have hG83 := g_w hG76 W81 (A := v79.toInt) rfl (lo := 0) (hi := 8) rfl rfl (by omega) (by decide)
            have F84 := FR.w F77 W81 (show 77 = 77 ∧ (67 = 4 ∨ 67 = 5 ∨ 7 ≤ 67 ∧ 67 ≤ 10) ∨ 77 = 77 ∧ (67 = 59 ∨ 65 ≤ 67 ∧ 67 ≤ 69) ∨ 112 ≤ 77 ∧ 77 ≤ 114 ∧ 40 ≤ 67 ∨ 77 = 115 ∨ 77 = 116 by decide)
            refine to_an (pc := 129) rw_226_129 rfl (s_v (pc := 130) rw_226_130 (dp0 hd (by decide)) (ls0 := [.ref 77]) rfl (Nat.le_of_ble_eq_true rfl) (Nat.le_of_ble_eq_true rfl) rfl (to_rc rfl rfl rfl (g_o hG83 rfl)) rfl ?_)
            have c_85 : M82.2.1 77 7 = (M.2.1 77 7) := (W_n W81 (by decide) (W_n W74 (by decide) (F_n F53 (show ¬ (77 = 77 ∧ (7 = 59 ∨ 7 = 65 ∨ 7 = 66) ∨ 112 ≤ 77 ∧ 77 ≤ 114 ∧ 40 ≤ 7 ∨ 77 = 116) by decide) rfl)))
            have t_86 : (M82.2.1 77 7).toInt = (M.2.1 77 7).toInt := congrArg Int32.toInt c_85
            have c_87 : M82.2.1 77 6 = (M.2.1 77 6) := (W_n W81 (by decide) (W_n W74 (by decide) (F_n F53 (show ¬ (77 = 77 ∧ (6 = 59 ∨ 6 = 65 ∨ 6 = 66) ∨ 112 ≤ 77 ∧ 77 ≤ 114 ∧ 40 ≤ 6 ∨ 77 = 116) by decide) rfl)))
            have t_88 : (M82.2.1 77 6).toInt = (M.2.1 77 6).toInt := congrArg Int32.toInt c_87
            refine C_156 hX (dp1 hd (by decide)) hG83 (by omega)  (fun M94 hG90 F89 p_91 p_92 p_93 => ?_)
            have F95 := FR.c F84 F89 tg_308
            have b_96 := g_b hG90 (a := 77) (i := 7) (lo := 0) (hi := 500) rfl rfl
            have c_97 : M94.2.1 77 6 = (M.2.1 77 6) := (F_n F89 (show ¬ (77 = 77 ∧ 7 ≤ 6 ∧ 6 ≤ 10) by decide) c_87)
            have t_98 : (M94.2.1 77 6).toInt = (M.2.1 77 6).toInt := congrArg Int32.toInt c_97
            have b_99 := g_b hG90 (a := 77) (i := 8) (lo := 0) (hi := 5) rfl rfl
            refine to_c (pc := 133) rw_226_133 (x := (1 : Int32)) rfl rfl (s_r1 (pc := 134) rw_226_134 (A := 1) rfl (by decide) ?_)
            have c_100 : M94.2.1 77 59 = (M58.2.1 77 59) := (F_n F89 (show ¬ (77 = 77 ∧ 7 ≤ 59 ∧ 59 ≤ 10) by decide) (W_n W81 (by decide) (W_n W74 (by decide) rfl)))
            have t_101 : (M94.2.1 77 59).toInt = (M58.2.1 77 59).toInt := congrArg Int32.toInt c_100
            have c_102 : M94.2.1 77 65 = v72 := (F_n F89 (show ¬ (77 = 77 ∧ 7 ≤ 65 ∧ 65 ≤ 10) by decide) (W_n W81 (by decide) (W_e W74)))
            have t_103 : (M94.2.1 77 65).toInt = v72.toInt := congrArg Int32.toInt c_102
            have c_104 : M94.2.1 77 66 = (M58.2.1 77 66) := (F_n F89 (show ¬ (77 = 77 ∧ 7 ≤ 66 ∧ 66 ≤ 10) by decide) (W_n W81 (by decide) (W_n W74 (by decide) rfl)))
            have t_105 : (M94.2.1 77 66).toInt = (M58.2.1 77 66).toInt := congrArg Int32.toInt c_104
            have c_106 : M94.2.1 77 67 = v79 := (F_n F89 (show ¬ (77 = 77 ∧ 7 ≤ 67 ∧ 67 ≤ 10) by decide) (W_e W81))
            have t_107 : (M94.2.1 77 67).toInt = v79.toInt := congrArg Int32.toInt c_106
            have c_108 : M94.2.1 77 68 = (M.2.1 77 68) := (F_n F89 (show ¬ (77 = 77 ∧ 7 ≤ 68 ∧ 68 ≤ 10) by decide) (W_n W81 (by decide) (W_n W74 (by decide) c_66)))
            have t_109 : (M94.2.1 77 68).toInt = (M.2.1 77 68).toInt := congrArg Int32.toInt c_108
            have c_110 : M94.2.1 77 69 = (M.2.1 77 69) := (F_n F89 (show ¬ (77 = 77 ∧ 7 ≤ 69 ∧ 69 ≤ 10) by decide) (W_n W81 (by decide) (W_n W74 (by decide) c_68)))
            have t_111 : (M94.2.1 77 69).toInt = (M.2.1 77 69).toInt := congrArg Int32.toInt c_110
            have s_113 := Wx_f (M := M58) (M1 := M94) (((M58.2.1 77 65).toInt).toNat - 1) (fun i z => (F_n F89 (show ¬ (115 = 77 ∧ 7 ≤ i ∧ i ≤ 10) by omega) (W_n W81 (by omega) (W_n W74 (by omega) rfl))))
            have j_112 : QK M94 := QK_i (by unfold QK_c; rw [show ((M94.2.1 77 65).toInt).toNat = ((M58.2.1 77 65).toInt).toNat - 1 by omega]; refine ⟨by omega, by omega, by omega, by omega⟩) (fun i z => by rw [(F_n F89 (show ¬ (115 = 77 ∧ 7 ≤ i ∧ i ≤ 10) by omega) (W_n W81 (by omega) (W_n W74 (by omega) rfl)))]; exact p_55.2.1 i (by omega)) (by rw [(F_n F89 (show ¬ (77 = 77 ∧ 7 ≤ 59 ∧ 59 ≤ 10) by decide) (W_n W81 (by omega) (W_n W74 (by omega) rfl)))]; exact KN_f (fun a i z => (F_n F89 (show ¬ (a = 77 ∧ 7 ≤ i ∧ i ≤ 10) by omega) (W_n W81 (by /-r77,67-/ omega) (W_n W74 (by /-r77,65-/ omega) rfl)))) p_55.2.2)
            exact h (1 : Int32) M94 hG90 F95 (by decide) (by decide) (by omega) (by omega) (by omega) (by omega) (fun _ => j_112)
          · refine to_an (pc := 98) rw_226_98 rfl (to_c (pc := 99) rw_226_99 (x := (1 : Int32)) rfl rfl (s_v (pc := 100) rw_226_100 (dp0 hd (by decide)) (ls0 := [.ref 77, .int (1 : Int32)]) rfl (Nat.le_of_ble_eq_true rfl) (Nat.le_of_ble_eq_true rfl) rfl (to_rc rfl rfl rfl (g_o hG rfl)) rfl (to_an (pc := 0) rw_152_0 rfl (to_in (pc := 1) rw_152_1 rfl (s_pI (pc := 2) rw_152_2 hG rfl (fun M115 W114 => ?_))))))
            have hG116 := g_wf hG W114 rfl rfl (by decide)
            have F117 := FR.w F0 W114 (show 77 = 77 ∧ (4 = 4 ∨ 4 = 5 ∨ 7 ≤ 4 ∧ 4 ≤ 10) ∨ 77 = 77 ∧ (4 = 59 ∨ 65 ≤ 4 ∧ 4 ≤ 69) ∨ 112 ≤ 77 ∧ 77 ≤ 114 ∧ 40 ≤ 4 ∨ 77 = 115 ∨ 77 = 116 by decide)
            refine to_an (pc := 5) rw_152_5 rfl (to_an (pc := 6) rw_152_6 rfl ?_)
            have c_118 : M115.2.1 77 10 = (M.2.1 77 10) := (W_n W114 (by decide) rfl)
            have b_119 := g_b hG (a := 77) (i := 10) (lo := 0) (hi := 500) rfl rfl
            refine tt_gI (pc := 7) rw_152_7 (g_o hG116 rfl) (v := (M.2.1 77 10)) c_118 (s_pI (pc := 10) rw_152_10 hG116 rfl (fun M121 W120 => ?_))
            have hG122 := g_wf hG116 W120 rfl rfl (by decide)
            have F123 := FR.w F117 W120 (show 77 = 77 ∧ (5 = 4 ∨ 5 = 5 ∨ 7 ≤ 5 ∧ 5 ≤ 10) ∨ 77 = 77 ∧ (5 = 59 ∨ 65 ≤ 5 ∧ 5 ≤ 69) ∨ 112 ≤ 77 ∧ 77 ≤ 114 ∧ 40 ≤ 5 ∨ 77 = 115 ∨ 77 = 116 by decide)
            refine to_c (pc := 13) rw_152_13 (x := (0 : Int32)) rfl rfl (s_r1 (pc := 14) rw_152_14 (A := 0) rfl (by decide) (s_r1 (pc := 103) rw_226_103 (A := 0) rfl (by decide) ?_))
            have k_124 : (0 : Int32).toInt = 0 := rfl
            have c_125 : M121.2.1 77 7 = (M.2.1 77 7) := (W_n W120 (by decide) (W_n W114 (by decide) rfl))
            have t_126 : (M121.2.1 77 7).toInt = (M.2.1 77 7).toInt := congrArg Int32.toInt c_125
            have c_127 : M121.2.1 77 6 = (M.2.1 77 6) := (W_n W120 (by decide) (W_n W114 (by decide) rfl))
            have t_128 : (M121.2.1 77 6).toInt = (M.2.1 77 6).toInt := congrArg Int32.toInt c_127
            have c_129 : M121.2.1 77 8 = (M.2.1 77 8) := (W_n W120 (by decide) (W_n W114 (by decide) rfl))
            have t_130 : (M121.2.1 77 8).toInt = (M.2.1 77 8).toInt := congrArg Int32.toInt c_129
            exact h (0 : Int32) M121 hG122 F123 (by decide) (by decide) (by omega) (by omega) (by omega) (by omega) (fun z => absurd z (by omega))
    · refine to_an (pc := 8) rw_158_8 rfl (tt_gI (pc := 9) rw_158_9 (g_o hG rfl) (v := (M.2.1 77 9)) rfl (to_in (pc := 12) rw_158_12 rfl (b_cne (pc := 13) rw_158_13 (A := (M.2.1 77 9).toInt) (B := 13) rfl rfl (fun h131 => ?_) (fun h131 => ?_))))
      · refine to_c (pc := 20) rw_158_20 (x := (0 : Int32)) rfl rfl (s_r1 (pc := 21) rw_158_21 (A := 0) rfl (by decide) (b_ieq_t (pc := 15) rw_226_15 (A := 0) rfl (by decide) (to_an (pc := 82) rw_226_82 rfl (to_c (pc := 83) rw_226_83 (x := (41 : Int32)) rfl rfl (s_v (pc := 85) rw_226_85 (dp0 hd (by decide)) (ls0 := [.ref 77, .int (41 : Int32)]) rfl (Nat.le_of_ble_eq_true rfl) (Nat.le_of_ble_eq_true rfl) rfl (to_rc rfl rfl rfl (g_o hG rfl)) rfl (to_an (pc := 0) rw_159_0 rfl (tt_gI (pc := 1) rw_159_1 (g_o hG rfl) (v := (M.2.1 77 8)) rfl (to_c (pc := 4) rw_159_4 (x := (4 : Int32)) rfl rfl (b_cne_t (pc := 5) rw_159_5 (A := (M.2.1 77 8).toInt) (B := 4) rfl rfl (by omega) (to_c (pc := 20) rw_159_20 (x := (0 : Int32)) rfl rfl (s_r1 (pc := 21) rw_159_21 (A := 0) rfl (by decide) ?_)))))))))))
        refine b_ieq_t (pc := 88) rw_226_88 (A := 0) rfl (by decide) (to_an (pc := 98) rw_226_98 rfl (to_c (pc := 99) rw_226_99 (x := (1 : Int32)) rfl rfl (s_v (pc := 100) rw_226_100 (dp0 hd (by decide)) (ls0 := [.ref 77, .int (1 : Int32)]) rfl (Nat.le_of_ble_eq_true rfl) (Nat.le_of_ble_eq_true rfl) rfl (to_rc rfl rfl rfl (g_o hG rfl)) rfl (to_an (pc := 0) rw_152_0 rfl (to_in (pc := 1) rw_152_1 rfl (s_pI (pc := 2) rw_152_2 hG rfl (fun M133 W132 => ?_)))))))
        have hG134 := g_wf hG W132 rfl rfl (by decide)
        have F135 := FR.w F0 W132 (show 77 = 77 ∧ (4 = 4 ∨ 4 = 5 ∨ 7 ≤ 4 ∧ 4 ≤ 10) ∨ 77 = 77 ∧ (4 = 59 ∨ 65 ≤ 4 ∧ 4 ≤ 69) ∨ 112 ≤ 77 ∧ 77 ≤ 114 ∧ 40 ≤ 4 ∨ 77 = 115 ∨ 77 = 116 by decide)
        refine to_an (pc := 5) rw_152_5 rfl (to_an (pc := 6) rw_152_6 rfl ?_)
        have c_136 : M133.2.1 77 10 = (M.2.1 77 10) := (W_n W132 (by decide) rfl)
        have b_137 := g_b hG (a := 77) (i := 10) (lo := 0) (hi := 500) rfl rfl
        refine tt_gI (pc := 7) rw_152_7 (g_o hG134 rfl) (v := (M.2.1 77 10)) c_136 (s_pI (pc := 10) rw_152_10 hG134 rfl (fun M139 W138 => ?_))
        have hG140 := g_wf hG134 W138 rfl rfl (by decide)
        have F141 := FR.w F135 W138 (show 77 = 77 ∧ (5 = 4 ∨ 5 = 5 ∨ 7 ≤ 5 ∧ 5 ≤ 10) ∨ 77 = 77 ∧ (5 = 59 ∨ 65 ≤ 5 ∧ 5 ≤ 69) ∨ 112 ≤ 77 ∧ 77 ≤ 114 ∧ 40 ≤ 5 ∨ 77 = 115 ∨ 77 = 116 by decide)
        refine to_c (pc := 13) rw_152_13 (x := (0 : Int32)) rfl rfl (s_r1 (pc := 14) rw_152_14 (A := 0) rfl (by decide) (s_r1 (pc := 103) rw_226_103 (A := 0) rfl (by decide) ?_))
        have k_142 : (0 : Int32).toInt = 0 := rfl
        have c_143 : M139.2.1 77 7 = (M.2.1 77 7) := (W_n W138 (by decide) (W_n W132 (by decide) rfl))
        have t_144 : (M139.2.1 77 7).toInt = (M.2.1 77 7).toInt := congrArg Int32.toInt c_143
        have c_145 : M139.2.1 77 6 = (M.2.1 77 6) := (W_n W138 (by decide) (W_n W132 (by decide) rfl))
        have t_146 : (M139.2.1 77 6).toInt = (M.2.1 77 6).toInt := congrArg Int32.toInt c_145
        have c_147 : M139.2.1 77 8 = (M.2.1 77 8) := (W_n W138 (by decide) (W_n W132 (by decide) rfl))
        have t_148 : (M139.2.1 77 8).toInt = (M.2.1 77 8).toInt := congrArg Int32.toInt c_147
        exact h (0 : Int32) M139 hG140 F141 (by decide) (by decide) (by omega) (by omega) (by omega) (by omega) (fun z => absurd z (by omega))
      · refine to_c (pc := 16) rw_158_16 (x := (1 : Int32)) rfl rfl (to_go (pc := 17) rw_158_17 (s_r1 (pc := 21) rw_158_21 (A := 1) rfl (by decide) (b_ieq_f (pc := 15) rw_226_15 (A := 1) rfl (by decide) (to_an (pc := 18) rw_226_18 rfl (tt_gI (pc := 19) rw_226_19 (g_o hG rfl) (v := (M.2.1 77 9)) rfl (to_c (pc := 22) rw_226_22 (x := (12 : Int32)) rfl rfl (b_cne_t (pc := 24) rw_226_24 (A := (M.2.1 77 9).toInt) (B := 12) rfl rfl (by omega) (to_c (pc := 31) rw_226_31 (x := (4 : Int32)) rfl rfl (to_isn (pc := 32) rw_226_32 (ls2 := [.ref 77, .int (4 : Int32)]) rfl rfl (to_an (pc := 33) rw_226_33 rfl (s_v (pc := 34) rw_226_34 (dp0 hd (by decide)) (ls0 := [.ref 77]) rfl (Nat.le_of_ble_eq_true rfl) (Nat.le_of_ble_eq_true rfl) rfl (to_rc rfl rfl rfl (g_o hG rfl)) rfl ?_)))))))))))
        refine to_an (pc := 0) rw_224_0 rfl (tt_gI (pc := 1) rw_224_1 (g_o hG rfl) (v := (M.2.1 77 69)) rfl (to_c (pc := 4) rw_224_4 (x := (40 : Int32)) rfl rfl (b_cne (pc := 6) rw_224_6 (A := (M.2.1 77 69).toInt) (B := 40) rfl rfl (fun h149 => ?_) (fun h149 => ?_))))
        · refine to_an (pc := 15) rw_224_15 rfl (to_dupr (pc := 16) rw_224_16 (tt_gI (pc := 17) rw_224_17 (g_o hG rfl) (v := (M.2.1 77 69)) rfl (to_c (pc := 20) rw_224_20 (x := (1 : Int32)) rfl rfl (s_add (pc := 21) rw_224_21 (A := (M.2.1 77 69).toInt) (B := 1) rfl rfl (by omega) (fun v150 e151 => s_pI (pc := 22) rw_224_22 hG rfl (fun M153 W152 => ?_))))))
          have hG154 := g_w hG W152 (A := v150.toInt) rfl (lo := 0) (hi := 40) rfl rfl (by omega) (by decide)
          have F155 := FR.w F0 W152 (show 77 = 77 ∧ (69 = 4 ∨ 69 = 5 ∨ 7 ≤ 69 ∧ 69 ≤ 10) ∨ 77 = 77 ∧ (69 = 59 ∨ 65 ≤ 69 ∧ 69 ≤ 69) ∨ 112 ≤ 77 ∧ 77 ≤ 114 ∧ 40 ≤ 69 ∨ 77 = 115 ∨ 77 = 116 by decide)
          refine to_c (pc := 25) rw_224_25 (x := (1 : Int32)) rfl rfl (s_r1 (pc := 26) rw_224_26 (A := 1) rfl (by decide) (b_ine_t (pc := 37) rw_226_37 (A := 1) rfl (by decide) (to_an (pc := 42) rw_226_42 rfl (to_an (pc := 43) rw_226_43 rfl (to_in (pc := 44) rw_226_44 rfl (s_v (pc := 45) rw_226_45 (dp0 hd (by decide)) (ls0 := [.ref 77, .int (4 : Int32)]) rfl (Nat.le_of_ble_eq_true rfl) (Nat.le_of_ble_eq_true rfl) rfl (to_rc rfl rfl rfl (g_o hG154 rfl)) rfl (to_in (pc := 0) rw_220_0 rfl (to_c (pc := 1) rw_220_1 (x := (2 : Int32)) rfl rfl (b_cne_t (pc := 2) rw_220_2 (A := 4) (B := 2) rfl rfl (by decide) (to_in (pc := 9) rw_220_9 rfl (to_c (pc := 10) rw_220_10 (x := (3 : Int32)) rfl rfl ?_)))))))))))
          refine b_cne_t (pc := 11) rw_220_11 (A := 4) (B := 3) rfl rfl (by decide) (to_in (pc := 18) rw_220_18 rfl (to_c (pc := 19) rw_220_19 (x := (4 : Int32)) rfl rfl (b_cne_f (pc := 20) rw_220_20 (A := 4) (B := 4) rfl rfl (by decide) (to_c (pc := 23) rw_220_23 (x := (1 : Int32)) rfl rfl (to_go (pc := 24) rw_220_24 (to_r0 (pc := 28) rw_220_28 (s_v (pc := 48) rw_226_48 (dp0 hd (by decide)) (ls0 := [.ref 77, .int (1 : Int32), .null, .null, .null]) rfl (Nat.le_of_ble_eq_true rfl) (Nat.le_of_ble_eq_true rfl) rfl (to_rc rfl rfl rfl (g_o hG154 rfl)) rfl ?_)))))))
          have k_156 : (1 : Int32).toInt = 1 := rfl
          have c_157 : M153.2.1 77 59 = (M.2.1 77 59) := (W_n W152 (by decide) rfl)
          have t_158 : (M153.2.1 77 59).toInt = (M.2.1 77 59).toInt := congrArg Int32.toInt c_157
          have c_159 : M153.2.1 77 65 = (M.2.1 77 65) := (W_n W152 (by decide) rfl)
          have t_160 : (M153.2.1 77 65).toInt = (M.2.1 77 65).toInt := congrArg Int32.toInt c_159
          have c_161 : M153.2.1 77 66 = (M.2.1 77 66) := (W_n W152 (by decide) rfl)
          have t_162 : (M153.2.1 77 66).toInt = (M.2.1 77 66).toInt := congrArg Int32.toInt c_161
          have c_163 : M153.2.1 77 67 = (M.2.1 77 67) := (W_n W152 (by decide) rfl)
          have t_164 : (M153.2.1 77 67).toInt = (M.2.1 77 67).toInt := congrArg Int32.toInt c_163
          have c_165 : M153.2.1 77 68 = (M.2.1 77 68) := (W_n W152 (by decide) rfl)
          have t_166 : (M153.2.1 77 68).toInt = (M.2.1 77 68).toInt := congrArg Int32.toInt c_165
          have c_167 : M153.2.1 77 69 = v150 := (W_e W152)
          have t_168 : (M153.2.1 77 69).toInt = v150.toInt := congrArg Int32.toInt c_167
          have s_170 := Wx_f (M := M) (M1 := M153) ((M.2.1 77 65).toInt).toNat (fun i z => (W_n W152 (by omega) rfl))
          have j_169 : QK M153 := QK_i (by unfold QK_c; rw [show ((M153.2.1 77 65).toInt).toNat = ((M.2.1 77 65).toInt).toNat by omega]; refine ⟨by omega, by omega, by omega, by omega⟩) (fun i z => by rw [(W_n W152 (by omega) rfl)]; exact q2.2.1 i (by omega)) (by rw [(W_n W152 (by omega) rfl)]; exact KN_f (fun a i z => (W_n W152 (by /-r77,69-/ omega) rfl)) q2.2.2)
          refine C_223 hX (dp1 hd (by decide)) hG154 (by omega) (by omega) (by omega) j_169 (l := (1 : Int32)) (fun M176 hG172 F171 p_173 p_174 p_175 => ?_)
          have F177 := FR.c F155 F171 tg_307
          have s_178 := p_174
          have s_179 : Wo M153 ((M153.2.1 77 65).toInt).toNat = Wo M ((M.2.1 77 65).toInt).toNat := by rw [show (M153.2.1 77 65) = (M.2.1 77 65) from (W_n W152 (by omega) rfl)]; exact (Wx_f (M := M) (M1 := M153) _ (fun i z => (W_n W152 (by omega) rfl))).1
          have b_180 := g_b hG172 (a := 77) (i := 59) (lo := 0) (hi := 40) rfl rfl
          have b_181 := g_b hG172 (a := 77) (i := 65) (lo := 0) (hi := 48) rfl rfl
          have b_182 := g_b hG172 (a := 77) (i := 66) (lo := 0) (hi := 40) rfl rfl
          have c_183 : M176.2.1 77 67 = (M.2.1 77 67) := (F_n F171 (show ¬ (77 = 77 ∧ (67 = 59 ∨ 67 = 65 ∨ 67 = 66) ∨ 112 ≤ 77 ∧ 77 ≤ 114 ∧ 40 ≤ 67 ∨ 77 = 116) by decide) c_163)
          have t_184 : (M176.2.1 77 67).toInt = (M.2.1 77 67).toInt := congrArg Int32.toInt c_183
          have c_185 : M176.2.1 77 68 = (M.2.1 77 68) := (F_n F171 (show ¬ (77 = 77 ∧ (68 = 59 ∨ 68 = 65 ∨ 68 = 66) ∨ 112 ≤ 77 ∧ 77 ≤ 114 ∧ 40 ≤ 68 ∨ 77 = 116) by decide) c_165)
          have t_186 : (M176.2.1 77 68).toInt = (M.2.1 77 68).toInt := congrArg Int32.toInt c_185
          have c_187 : M176.2.1 77 69 = v150 := (F_n F171 (show ¬ (77 = 77 ∧ (69 = 59 ∨ 69 = 65 ∨ 69 = 66) ∨ 112 ≤ 77 ∧ 77 ≤ 114 ∧ 40 ≤ 69 ∨ 77 = 116) by decide) c_167)
          have t_188 : (M176.2.1 77 69).toInt = v150.toInt := congrArg Int32.toInt c_187
          have s_189 := QK_e p_173
          have s_190 := Wx_b M176 ((M176.2.1 77 65).toInt).toNat
          refine to_an (pc := 51) rw_226_51 rfl (s_gR (pc := 52) rw_226_52 hG172 rfl (v := 115) rfl (to_an (pc := 55) rw_226_55 rfl (tt_gI (pc := 56) rw_226_56 (g_o hG172 rfl) (v := (M176.2.1 77 65)) rfl (to_in (pc := 59) rw_226_59 rfl (s_ias (pc := 60) rw_226_60 hG172 rfl (n := 64) rfl (A := (M176.2.1 77 65).toInt) rfl (by omega) (by omega) (fun M192 W191 => ?_))))))
          have hG193 := g_w hG172 W191 (A := 4) rfl (lo := 0) (hi := 4) rfl rfl (by omega) (by decide)
          have F194 := FR.w F177 W191 (show 115 = 77 ∧ (((M176.2.1 77 65).toInt).toNat = 4 ∨ ((M176.2.1 77 65).toInt).toNat = 5 ∨ 7 ≤ ((M176.2.1 77 65).toInt).toNat ∧ ((M176.2.1 77 65).toInt).toNat ≤ 10) ∨ 115 = 77 ∧ (((M176.2.1 77 65).toInt).toNat = 59 ∨ 65 ≤ ((M176.2.1 77 65).toInt).toNat ∧ ((M176.2.1 77 65).toInt).toNat ≤ 69) ∨ 112 ≤ 115 ∧ 115 ≤ 114 ∧ 40 ≤ ((M176.2.1 77 65).toInt).toNat ∨ 115 = 115 ∨ 115 = 116 by omega)
          refine to_an (pc := 61) rw_226_61 rfl (to_dupr (pc := 62) rw_226_62 ?_)
          have c_195 : M192.2.1 77 65 = (M176.2.1 77 65) := (W_n W191 (fun z => absurd z.1 (by decide)) rfl)
          refine tt_gI (pc := 63) rw_226_63 (g_o hG193 rfl) (v := (M176.2.1 77 65)) c_195 (to_c (pc := 66) rw_226_66 (x := (1 : Int32)) rfl rfl (s_add (pc := 67) rw_226_67 (A := (M176.2.1 77 65).toInt) (B := 1) rfl rfl (by omega) (fun v196 e197 => s_pI (pc := 68) rw_226_68 hG193 rfl (fun M199 W198 => ?_))))
          have hG200 := g_w hG193 W198 (A := v196.toInt) rfl (lo := 0) (hi := 48) rfl rfl (by omega) (by decide)
          have F201 := FR.w F194 W198 (show 77 = 77 ∧ (65 = 4 ∨ 65 = 5 ∨ 7 ≤ 65 ∧ 65 ≤ 10) ∨ 77 = 77 ∧ (65 = 59 ∨ 65 ≤ 65 ∧ 65 ≤ 69) ∨ 112 ≤ 77 ∧ 77 ≤ 114 ∧ 40 ≤ 65 ∨ 77 = 115 ∨ 77 = 116 by decide)
          refine to_an (pc := 71) rw_226_71 rfl (to_c (pc := 72) rw_226_72 (x := (0 : Int32)) rfl rfl (s_pI (pc := 73) rw_226_73 hG200 rfl (fun M203 W202 => ?_)))
          have hG204 := g_w hG200 W202 (A := 0) rfl (lo := 0) (hi := 1) rfl rfl (by omega) (by decide)
          have F205 := FR.w F201 W202 (show 77 = 77 ∧ (68 = 4 ∨ 68 = 5 ∨ 7 ≤ 68 ∧ 68 ≤ 10) ∨ 77 = 77 ∧ (68 = 59 ∨ 65 ≤ 68 ∧ 68 ≤ 69) ∨ 112 ≤ 77 ∧ 77 ≤ 114 ∧ 40 ≤ 68 ∨ 77 = 115 ∨ 77 = 116 by decide)
          refine to_an (pc := 76) rw_226_76 rfl (s_v (pc := 77) rw_226_77 (dp0 hd (by decide)) (ls0 := [.ref 77]) rfl (Nat.le_of_ble_eq_true rfl) (Nat.le_of_ble_eq_true rfl) rfl (to_rc rfl rfl rfl (g_o hG204 rfl)) rfl ?_)
          have c_206 : M203.2.1 77 7 = (M.2.1 77 7) := (W_n W202 (by decide) (W_n W198 (by decide) (W_n W191 (fun z => absurd z.1 (by decide)) (F_n F171 (show ¬ (77 = 77 ∧ (7 = 59 ∨ 7 = 65 ∨ 7 = 66) ∨ 112 ≤ 77 ∧ 77 ≤ 114 ∧ 40 ≤ 7 ∨ 77 = 116) by decide) (W_n W152 (by decide) rfl)))))
          have t_207 : (M203.2.1 77 7).toInt = (M.2.1 77 7).toInt := congrArg Int32.toInt c_206
          have c_208 : M203.2.1 77 6 = (M.2.1 77 6) := (W_n W202 (by decide) (W_n W198 (by decide) (W_n W191 (fun z => absurd z.1 (by decide)) (F_n F171 (show ¬ (77 = 77 ∧ (6 = 59 ∨ 6 = 65 ∨ 6 = 66) ∨ 112 ≤ 77 ∧ 77 ≤ 114 ∧ 40 ≤ 6 ∨ 77 = 116) by decide) (W_n W152 (by decide) rfl)))))
          have t_209 : (M203.2.1 77 6).toInt = (M.2.1 77 6).toInt := congrArg Int32.toInt c_208
          refine C_156 hX (dp1 hd (by decide)) hG204 (by omega)  (fun M215 hG211 F210 p_212 p_213 p_214 => ?_)
          have F216 := FR.c F205 F210 tg_308
          have b_217 := g_b hG211 (a := 77) (i := 7) (lo := 0) (hi := 500) rfl rfl
          have c_218 : M215.2.1 77 6 = (M.2.1 77 6) := (F_n F210 (show ¬ (77 = 77 ∧ 7 ≤ 6 ∧ 6 ≤ 10) by decide) c_208)
          have t_219 : (M215.2.1 77 6).toInt = (M.2.1 77 6).toInt := congrArg Int32.toInt c_218
          have b_220 := g_b hG211 (a := 77) (i := 8) (lo := 0) (hi := 5) rfl rfl
          refine to_c (pc := 80) rw_226_80 (x := (1 : Int32)) rfl rfl (s_r1 (pc := 81) rw_226_81 (A := 1) rfl (by decide) ?_)
          have c_221 : M215.2.1 77 59 = (M176.2.1 77 59) := (F_n F210 (show ¬ (77 = 77 ∧ 7 ≤ 59 ∧ 59 ≤ 10) by decide) (W_n W202 (by decide) (W_n W198 (by decide) (W_n W191 (fun z => absurd z.1 (by decide)) rfl))))
          have t_222 : (M215.2.1 77 59).toInt = (M176.2.1 77 59).toInt := congrArg Int32.toInt c_221
          have c_223 : M215.2.1 77 65 = v196 := (F_n F210 (show ¬ (77 = 77 ∧ 7 ≤ 65 ∧ 65 ≤ 10) by decide) (W_n W202 (by decide) (W_e W198)))
          have t_224 : (M215.2.1 77 65).toInt = v196.toInt := congrArg Int32.toInt c_223
          have c_225 : M215.2.1 77 66 = (M176.2.1 77 66) := (F_n F210 (show ¬ (77 = 77 ∧ 7 ≤ 66 ∧ 66 ≤ 10) by decide) (W_n W202 (by decide) (W_n W198 (by decide) (W_n W191 (fun z => absurd z.1 (by decide)) rfl))))
          have t_226 : (M215.2.1 77 66).toInt = (M176.2.1 77 66).toInt := congrArg Int32.toInt c_225
          have c_227 : M215.2.1 77 67 = (M.2.1 77 67) := (F_n F210 (show ¬ (77 = 77 ∧ 7 ≤ 67 ∧ 67 ≤ 10) by decide) (W_n W202 (by decide) (W_n W198 (by decide) (W_n W191 (fun z => absurd z.1 (by decide)) c_183))))
          have t_228 : (M215.2.1 77 67).toInt = (M.2.1 77 67).toInt := congrArg Int32.toInt c_227
          have c_229 : M215.2.1 77 68 = (0 : Int32) := (F_n F210 (show ¬ (77 = 77 ∧ 7 ≤ 68 ∧ 68 ≤ 10) by decide) (W_e W202))
          have k_230 : (0 : Int32).toInt = 0 := rfl
          have t_231 : (M215.2.1 77 68).toInt = (0 : Int32).toInt := congrArg Int32.toInt c_229
          have c_232 : M215.2.1 77 69 = v150 := (F_n F210 (show ¬ (77 = 77 ∧ 7 ≤ 69 ∧ 69 ≤ 10) by decide) (W_n W202 (by decide) (W_n W198 (by decide) (W_n W191 (fun z => absurd z.1 (by decide)) c_187))))
          have t_233 : (M215.2.1 77 69).toInt = v150.toInt := congrArg Int32.toInt c_232
          have k_235 : (4 : Int32).toInt = 4 := rfl
          have s_236 := Wx_f (M := M176) (M1 := M215) ((M176.2.1 77 65).toInt).toNat (fun i z => (F_n F210 (show ¬ (115 = 77 ∧ 7 ≤ i ∧ i ≤ 10) by omega) (W_n W202 (by omega) (W_n W198 (by omega) (W_n W191 (by omega) rfl)))))
          have s_237 : (M215.2.1 115 ((M176.2.1 77 65).toInt).toNat).toInt = (4 : Int32).toInt := by rw [show ((M176.2.1 77 65).toInt).toNat = ((M176.2.1 77 65).toInt).toNat by omega]; exact congrArg Int32.toInt (F_n F210 (show ¬ (115 = 77 ∧ 7 ≤ (((M176.2.1 77 65).toInt).toNat) ∧ (((M176.2.1 77 65).toInt).toNat) ≤ 10) by omega) (W_n W202 (by omega) (W_n W198 (by omega) (W_e W191))))
          have s_238 := Wx_s M215 ((M176.2.1 77 65).toInt).toNat
          have j_234 : QK M215 := QK_i (by unfold QK_c; rw [show ((M215.2.1 77 65).toInt).toNat = ((M176.2.1 77 65).toInt).toNat + 1 by omega]; refine ⟨by omega, by omega, by omega, by omega⟩) (fun i z => by
              by_cases ei : i = ((M176.2.1 77 65).toInt).toNat
              · rw [ei]; omega
              · rw [(F_n F210 (show ¬ (115 = 77 ∧ 7 ≤ i ∧ i ≤ 10) by omega) (W_n W202 (by omega) (W_n W198 (by omega) (W_n W191 (by omega) rfl))))]; exact p_173.2.1 i (by omega)) (by rw [(F_n F210 (show ¬ (77 = 77 ∧ 7 ≤ 59 ∧ 59 ≤ 10) by decide) (W_n W202 (by omega) (W_n W198 (by omega) (W_n W191 (by omega) rfl))))]; exact KN_f (fun a i z => (F_n F210 (show ¬ (a = 77 ∧ 7 ≤ i ∧ i ≤ 10) by omega) (W_n W202 (by /-r77,68-/ omega) (W_n W198 (by /-r77,65-/ omega) (W_n W191 (by /-r115-/ omega) rfl))))) p_173.2.2)
          exact h (1 : Int32) M215 hG211 F216 (by decide) (by decide) (by omega) (by omega) (by omega) (by omega) (fun _ => j_234)
        · refine to_an (pc := 9) rw_224_9 rfl (to_c (pc := 10) rw_224_10 (x := (2 : Int32)) rfl rfl (s_v (pc := 11) rw_224_11 (dp1 hd (by decide)) (ls0 := [.ref 77, .int (2 : Int32)]) rfl (Nat.le_of_ble_eq_true rfl) (Nat.le_of_ble_eq_true rfl) rfl (to_rc rfl rfl rfl (g_o hG rfl)) rfl (to_an (pc := 0) rw_152_0 rfl (to_in (pc := 1) rw_152_1 rfl (s_pI (pc := 2) rw_152_2 hG rfl (fun M240 W239 => ?_))))))
          have hG241 := g_wf hG W239 rfl rfl (by decide)
          have F242 := FR.w F0 W239 (show 77 = 77 ∧ (4 = 4 ∨ 4 = 5 ∨ 7 ≤ 4 ∧ 4 ≤ 10) ∨ 77 = 77 ∧ (4 = 59 ∨ 65 ≤ 4 ∧ 4 ≤ 69) ∨ 112 ≤ 77 ∧ 77 ≤ 114 ∧ 40 ≤ 4 ∨ 77 = 115 ∨ 77 = 116 by decide)
          refine to_an (pc := 5) rw_152_5 rfl (to_an (pc := 6) rw_152_6 rfl ?_)
          have c_243 : M240.2.1 77 10 = (M.2.1 77 10) := (W_n W239 (by decide) rfl)
          have b_244 := g_b hG (a := 77) (i := 10) (lo := 0) (hi := 500) rfl rfl
          refine tt_gI (pc := 7) rw_152_7 (g_o hG241 rfl) (v := (M.2.1 77 10)) c_243 (s_pI (pc := 10) rw_152_10 hG241 rfl (fun M246 W245 => ?_))
          have hG247 := g_wf hG241 W245 rfl rfl (by decide)
          have F248 := FR.w F242 W245 (show 77 = 77 ∧ (5 = 4 ∨ 5 = 5 ∨ 7 ≤ 5 ∧ 5 ≤ 10) ∨ 77 = 77 ∧ (5 = 59 ∨ 65 ≤ 5 ∧ 5 ≤ 69) ∨ 112 ≤ 77 ∧ 77 ≤ 114 ∧ 40 ≤ 5 ∨ 77 = 115 ∨ 77 = 116 by decide)
          refine to_c (pc := 13) rw_152_13 (x := (0 : Int32)) rfl rfl (s_r1 (pc := 14) rw_152_14 (A := 0) rfl (by decide) (s_r1 (pc := 14) rw_224_14 (A := 0) rfl (by decide) (b_ine_f (pc := 37) rw_226_37 (A := 0) rfl (by decide) (to_c (pc := 40) rw_226_40 (x := (0 : Int32)) rfl rfl (s_r1 (pc := 41) rw_226_41 (A := 0) rfl (by decide) ?_)))))
          have k_249 : (0 : Int32).toInt = 0 := rfl
          have c_250 : M246.2.1 77 7 = (M.2.1 77 7) := (W_n W245 (by decide) (W_n W239 (by decide) rfl))
          have t_251 : (M246.2.1 77 7).toInt = (M.2.1 77 7).toInt := congrArg Int32.toInt c_250
          have c_252 : M246.2.1 77 6 = (M.2.1 77 6) := (W_n W245 (by decide) (W_n W239 (by decide) rfl))
          have t_253 : (M246.2.1 77 6).toInt = (M.2.1 77 6).toInt := congrArg Int32.toInt c_252
          have c_254 : M246.2.1 77 8 = (M.2.1 77 8) := (W_n W245 (by decide) (W_n W239 (by decide) rfl))
          have t_255 : (M246.2.1 77 8).toInt = (M.2.1 77 8).toInt := congrArg Int32.toInt c_254
          exact h (0 : Int32) M246 hG247 F248 (by decide) (by decide) (by omega) (by omega) (by omega) (by omega) (fun z => absurd z (by omega))
  · refine to_an (pc := 8) rw_158_8 rfl (tt_gI (pc := 9) rw_158_9 (g_o hG rfl) (v := (M.2.1 77 9)) rfl (to_in (pc := 12) rw_158_12 rfl (b_cne (pc := 13) rw_158_13 (A := (M.2.1 77 9).toInt) (B := 12) rfl rfl (fun h256 => ?_) (fun h256 => ?_))))
    · refine to_c (pc := 20) rw_158_20 (x := (0 : Int32)) rfl rfl (s_r1 (pc := 21) rw_158_21 (A := 0) rfl (by decide) (b_ine_f (pc := 6) rw_226_6 (A := 0) rfl (by decide) (to_an (pc := 9) rw_226_9 rfl (to_c (pc := 10) rw_226_10 (x := (13 : Int32)) rfl rfl (s_v (pc := 12) rw_226_12 (dp0 hd (by decide)) (ls0 := [.ref 77, .int (13 : Int32)]) rfl (Nat.le_of_ble_eq_true rfl) (Nat.le_of_ble_eq_true rfl) rfl (to_rc rfl rfl rfl (g_o hG rfl)) rfl (to_an (pc := 0) rw_158_0 rfl (tt_gI (pc := 1) rw_158_1 (g_o hG rfl) (v := (M.2.1 77 8)) rfl (to_c (pc := 4) rw_158_4 (x := (1 : Int32)) rfl rfl (b_cne_f (pc := 5) rw_158_5 (A := (M.2.1 77 8).toInt) (B := 1) rfl rfl (by omega) (to_an (pc := 8) rw_158_8 rfl (tt_gI (pc := 9) rw_158_9 (g_o hG rfl) (v := (M.2.1 77 9)) rfl ?_)))))))))))
      refine to_in (pc := 12) rw_158_12 rfl (b_cne (pc := 13) rw_158_13 (A := (M.2.1 77 9).toInt) (B := 13) rfl rfl (fun h257 => ?_) (fun h257 => ?_))
      · refine to_c (pc := 20) rw_158_20 (x := (0 : Int32)) rfl rfl (s_r1 (pc := 21) rw_158_21 (A := 0) rfl (by decide) (b_ieq_t (pc := 15) rw_226_15 (A := 0) rfl (by decide) (to_an (pc := 82) rw_226_82 rfl (to_c (pc := 83) rw_226_83 (x := (41 : Int32)) rfl rfl (s_v (pc := 85) rw_226_85 (dp0 hd (by decide)) (ls0 := [.ref 77, .int (41 : Int32)]) rfl (Nat.le_of_ble_eq_true rfl) (Nat.le_of_ble_eq_true rfl) rfl (to_rc rfl rfl rfl (g_o hG rfl)) rfl (to_an (pc := 0) rw_159_0 rfl (tt_gI (pc := 1) rw_159_1 (g_o hG rfl) (v := (M.2.1 77 8)) rfl (to_c (pc := 4) rw_159_4 (x := (4 : Int32)) rfl rfl (b_cne_t (pc := 5) rw_159_5 (A := (M.2.1 77 8).toInt) (B := 4) rfl rfl (by omega) (to_c (pc := 20) rw_159_20 (x := (0 : Int32)) rfl rfl (s_r1 (pc := 21) rw_159_21 (A := 0) rfl (by decide) ?_)))))))))))
        refine b_ieq_t (pc := 88) rw_226_88 (A := 0) rfl (by decide) (to_an (pc := 98) rw_226_98 rfl (to_c (pc := 99) rw_226_99 (x := (1 : Int32)) rfl rfl (s_v (pc := 100) rw_226_100 (dp0 hd (by decide)) (ls0 := [.ref 77, .int (1 : Int32)]) rfl (Nat.le_of_ble_eq_true rfl) (Nat.le_of_ble_eq_true rfl) rfl (to_rc rfl rfl rfl (g_o hG rfl)) rfl (to_an (pc := 0) rw_152_0 rfl (to_in (pc := 1) rw_152_1 rfl (s_pI (pc := 2) rw_152_2 hG rfl (fun M259 W258 => ?_)))))))
        have hG260 := g_wf hG W258 rfl rfl (by decide)
        have F261 := FR.w F0 W258 (show 77 = 77 ∧ (4 = 4 ∨ 4 = 5 ∨ 7 ≤ 4 ∧ 4 ≤ 10) ∨ 77 = 77 ∧ (4 = 59 ∨ 65 ≤ 4 ∧ 4 ≤ 69) ∨ 112 ≤ 77 ∧ 77 ≤ 114 ∧ 40 ≤ 4 ∨ 77 = 115 ∨ 77 = 116 by decide)
        refine to_an (pc := 5) rw_152_5 rfl (to_an (pc := 6) rw_152_6 rfl ?_)
        have c_262 : M259.2.1 77 10 = (M.2.1 77 10) := (W_n W258 (by decide) rfl)
        have b_263 := g_b hG (a := 77) (i := 10) (lo := 0) (hi := 500) rfl rfl
        refine tt_gI (pc := 7) rw_152_7 (g_o hG260 rfl) (v := (M.2.1 77 10)) c_262 (s_pI (pc := 10) rw_152_10 hG260 rfl (fun M265 W264 => ?_))
        have hG266 := g_wf hG260 W264 rfl rfl (by decide)
        have F267 := FR.w F261 W264 (show 77 = 77 ∧ (5 = 4 ∨ 5 = 5 ∨ 7 ≤ 5 ∧ 5 ≤ 10) ∨ 77 = 77 ∧ (5 = 59 ∨ 65 ≤ 5 ∧ 5 ≤ 69) ∨ 112 ≤ 77 ∧ 77 ≤ 114 ∧ 40 ≤ 5 ∨ 77 = 115 ∨ 77 = 116 by decide)
        refine to_c (pc := 13) rw_152_13 (x := (0 : Int32)) rfl rfl (s_r1 (pc := 14) rw_152_14 (A := 0) rfl (by decide) (s_r1 (pc := 103) rw_226_103 (A := 0) rfl (by decide) ?_))
        have k_268 : (0 : Int32).toInt = 0 := rfl
        have c_269 : M265.2.1 77 7 = (M.2.1 77 7) := (W_n W264 (by decide) (W_n W258 (by decide) rfl))
        have t_270 : (M265.2.1 77 7).toInt = (M.2.1 77 7).toInt := congrArg Int32.toInt c_269
        have c_271 : M265.2.1 77 6 = (M.2.1 77 6) := (W_n W264 (by decide) (W_n W258 (by decide) rfl))
        have t_272 : (M265.2.1 77 6).toInt = (M.2.1 77 6).toInt := congrArg Int32.toInt c_271
        have c_273 : M265.2.1 77 8 = (M.2.1 77 8) := (W_n W264 (by decide) (W_n W258 (by decide) rfl))
        have t_274 : (M265.2.1 77 8).toInt = (M.2.1 77 8).toInt := congrArg Int32.toInt c_273
        exact h (0 : Int32) M265 hG266 F267 (by decide) (by decide) (by omega) (by omega) (by omega) (by omega) (fun z => absurd z (by omega))
      · refine to_c (pc := 16) rw_158_16 (x := (1 : Int32)) rfl rfl (to_go (pc := 17) rw_158_17 (s_r1 (pc := 21) rw_158_21 (A := 1) rfl (by decide) (b_ieq_f (pc := 15) rw_226_15 (A := 1) rfl (by decide) (to_an (pc := 18) rw_226_18 rfl (tt_gI (pc := 19) rw_226_19 (g_o hG rfl) (v := (M.2.1 77 9)) rfl (to_c (pc := 22) rw_226_22 (x := (12 : Int32)) rfl rfl (b_cne_t (pc := 24) rw_226_24 (A := (M.2.1 77 9).toInt) (B := 12) rfl rfl (by omega) (to_c (pc := 31) rw_226_31 (x := (4 : Int32)) rfl rfl (to_isn (pc := 32) rw_226_32 (ls2 := [.ref 77, .int (4 : Int32)]) rfl rfl (to_an (pc := 33) rw_226_33 rfl (s_v (pc := 34) rw_226_34 (dp0 hd (by decide)) (ls0 := [.ref 77]) rfl (Nat.le_of_ble_eq_true rfl) (Nat.le_of_ble_eq_true rfl) rfl (to_rc rfl rfl rfl (g_o hG rfl)) rfl ?_)))))))))))
        refine to_an (pc := 0) rw_224_0 rfl (tt_gI (pc := 1) rw_224_1 (g_o hG rfl) (v := (M.2.1 77 69)) rfl (to_c (pc := 4) rw_224_4 (x := (40 : Int32)) rfl rfl (b_cne (pc := 6) rw_224_6 (A := (M.2.1 77 69).toInt) (B := 40) rfl rfl (fun h275 => ?_) (fun h275 => ?_))))
        · refine to_an (pc := 15) rw_224_15 rfl (to_dupr (pc := 16) rw_224_16 (tt_gI (pc := 17) rw_224_17 (g_o hG rfl) (v := (M.2.1 77 69)) rfl (to_c (pc := 20) rw_224_20 (x := (1 : Int32)) rfl rfl (s_add (pc := 21) rw_224_21 (A := (M.2.1 77 69).toInt) (B := 1) rfl rfl (by omega) (fun v276 e277 => s_pI (pc := 22) rw_224_22 hG rfl (fun M279 W278 => ?_))))))
          have hG280 := g_w hG W278 (A := v276.toInt) rfl (lo := 0) (hi := 40) rfl rfl (by omega) (by decide)
          have F281 := FR.w F0 W278 (show 77 = 77 ∧ (69 = 4 ∨ 69 = 5 ∨ 7 ≤ 69 ∧ 69 ≤ 10) ∨ 77 = 77 ∧ (69 = 59 ∨ 65 ≤ 69 ∧ 69 ≤ 69) ∨ 112 ≤ 77 ∧ 77 ≤ 114 ∧ 40 ≤ 69 ∨ 77 = 115 ∨ 77 = 116 by decide)
          refine to_c (pc := 25) rw_224_25 (x := (1 : Int32)) rfl rfl (s_r1 (pc := 26) rw_224_26 (A := 1) rfl (by decide) (b_ine_t (pc := 37) rw_226_37 (A := 1) rfl (by decide) (to_an (pc := 42) rw_226_42 rfl (to_an (pc := 43) rw_226_43 rfl (to_in (pc := 44) rw_226_44 rfl (s_v (pc := 45) rw_226_45 (dp0 hd (by decide)) (ls0 := [.ref 77, .int (4 : Int32)]) rfl (Nat.le_of_ble_eq_true rfl) (Nat.le_of_ble_eq_true rfl) rfl (to_rc rfl rfl rfl (g_o hG280 rfl)) rfl (to_in (pc := 0) rw_220_0 rfl (to_c (pc := 1) rw_220_1 (x := (2 : Int32)) rfl rfl (b_cne_t (pc := 2) rw_220_2 (A := 4) (B := 2) rfl rfl (by decide) (to_in (pc := 9) rw_220_9 rfl (to_c (pc := 10) rw_220_10 (x := (3 : Int32)) rfl rfl ?_)))))))))))
          refine b_cne_t (pc := 11) rw_220_11 (A := 4) (B := 3) rfl rfl (by decide) (to_in (pc := 18) rw_220_18 rfl (to_c (pc := 19) rw_220_19 (x := (4 : Int32)) rfl rfl (b_cne_f (pc := 20) rw_220_20 (A := 4) (B := 4) rfl rfl (by decide) (to_c (pc := 23) rw_220_23 (x := (1 : Int32)) rfl rfl (to_go (pc := 24) rw_220_24 (to_r0 (pc := 28) rw_220_28 (s_v (pc := 48) rw_226_48 (dp0 hd (by decide)) (ls0 := [.ref 77, .int (1 : Int32), .null, .null, .null]) rfl (Nat.le_of_ble_eq_true rfl) (Nat.le_of_ble_eq_true rfl) rfl (to_rc rfl rfl rfl (g_o hG280 rfl)) rfl ?_)))))))
          have k_282 : (1 : Int32).toInt = 1 := rfl
          have c_283 : M279.2.1 77 59 = (M.2.1 77 59) := (W_n W278 (by decide) rfl)
          have t_284 : (M279.2.1 77 59).toInt = (M.2.1 77 59).toInt := congrArg Int32.toInt c_283
          have c_285 : M279.2.1 77 65 = (M.2.1 77 65) := (W_n W278 (by decide) rfl)
          have t_286 : (M279.2.1 77 65).toInt = (M.2.1 77 65).toInt := congrArg Int32.toInt c_285
          have c_287 : M279.2.1 77 66 = (M.2.1 77 66) := (W_n W278 (by decide) rfl)
          have t_288 : (M279.2.1 77 66).toInt = (M.2.1 77 66).toInt := congrArg Int32.toInt c_287
          have c_289 : M279.2.1 77 67 = (M.2.1 77 67) := (W_n W278 (by decide) rfl)
          have t_290 : (M279.2.1 77 67).toInt = (M.2.1 77 67).toInt := congrArg Int32.toInt c_289
          have c_291 : M279.2.1 77 68 = (M.2.1 77 68) := (W_n W278 (by decide) rfl)
          have t_292 : (M279.2.1 77 68).toInt = (M.2.1 77 68).toInt := congrArg Int32.toInt c_291
          have c_293 : M279.2.1 77 69 = v276 := (W_e W278)
          have t_294 : (M279.2.1 77 69).toInt = v276.toInt := congrArg Int32.toInt c_293
          have s_296 := Wx_f (M := M) (M1 := M279) ((M.2.1 77 65).toInt).toNat (fun i z => (W_n W278 (by omega) rfl))
          have j_295 : QK M279 := QK_i (by unfold QK_c; rw [show ((M279.2.1 77 65).toInt).toNat = ((M.2.1 77 65).toInt).toNat by omega]; refine ⟨by omega, by omega, by omega, by omega⟩) (fun i z => by rw [(W_n W278 (by omega) rfl)]; exact q2.2.1 i (by omega)) (by rw [(W_n W278 (by omega) rfl)]; exact KN_f (fun a i z => (W_n W278 (by /-r77,69-/ omega) rfl)) q2.2.2)
          refine C_223 hX (dp1 hd (by decide)) hG280 (by omega) (by omega) (by omega) j_295 (l := (1 : Int32)) (fun M302 hG298 F297 p_299 p_300 p_301 => ?_)
          have F303 := FR.c F281 F297 tg_307
          have s_304 := p_300
          have s_305 : Wo M279 ((M279.2.1 77 65).toInt).toNat = Wo M ((M.2.1 77 65).toInt).toNat := by rw [show (M279.2.1 77 65) = (M.2.1 77 65) from (W_n W278 (by omega) rfl)]; exact (Wx_f (M := M) (M1 := M279) _ (fun i z => (W_n W278 (by omega) rfl))).1
          have b_306 := g_b hG298 (a := 77) (i := 59) (lo := 0) (hi := 40) rfl rfl
          have b_307 := g_b hG298 (a := 77) (i := 65) (lo := 0) (hi := 48) rfl rfl
          have b_308 := g_b hG298 (a := 77) (i := 66) (lo := 0) (hi := 40) rfl rfl
          have c_309 : M302.2.1 77 67 = (M.2.1 77 67) := (F_n F297 (show ¬ (77 = 77 ∧ (67 = 59 ∨ 67 = 65 ∨ 67 = 66) ∨ 112 ≤ 77 ∧ 77 ≤ 114 ∧ 40 ≤ 67 ∨ 77 = 116) by decide) c_289)
          have t_310 : (M302.2.1 77 67).toInt = (M.2.1 77 67).toInt := congrArg Int32.toInt c_309
          have c_311 : M302.2.1 77 68 = (M.2.1 77 68) := (F_n F297 (show ¬ (77 = 77 ∧ (68 = 59 ∨ 68 = 65 ∨ 68 = 66) ∨ 112 ≤ 77 ∧ 77 ≤ 114 ∧ 40 ≤ 68 ∨ 77 = 116) by decide) c_291)
          have t_312 : (M302.2.1 77 68).toInt = (M.2.1 77 68).toInt := congrArg Int32.toInt c_311
          have c_313 : M302.2.1 77 69 = v276 := (F_n F297 (show ¬ (77 = 77 ∧ (69 = 59 ∨ 69 = 65 ∨ 69 = 66) ∨ 112 ≤ 77 ∧ 77 ≤ 114 ∧ 40 ≤ 69 ∨ 77 = 116) by decide) c_293)
          have t_314 : (M302.2.1 77 69).toInt = v276.toInt := congrArg Int32.toInt c_313
          have s_315 := QK_e p_299
          have s_316 := Wx_b M302 ((M302.2.1 77 65).toInt).toNat
          refine to_an (pc := 51) rw_226_51 rfl (s_gR (pc := 52) rw_226_52 hG298 rfl (v := 115) rfl (to_an (pc := 55) rw_226_55 rfl (tt_gI (pc := 56) rw_226_56 (g_o hG298 rfl) (v := (M302.2.1 77 65)) rfl (to_in (pc := 59) rw_226_59 rfl (s_ias (pc := 60) rw_226_60 hG298 rfl (n := 64) rfl (A := (M302.2.1 77 65).toInt) rfl (by omega) (by omega) (fun M318 W317 => ?_))))))
          have hG319 := g_w hG298 W317 (A := 4) rfl (lo := 0) (hi := 4) rfl rfl (by omega) (by decide)
          have F320 := FR.w F303 W317 (show 115 = 77 ∧ (((M302.2.1 77 65).toInt).toNat = 4 ∨ ((M302.2.1 77 65).toInt).toNat = 5 ∨ 7 ≤ ((M302.2.1 77 65).toInt).toNat ∧ ((M302.2.1 77 65).toInt).toNat ≤ 10) ∨ 115 = 77 ∧ (((M302.2.1 77 65).toInt).toNat = 59 ∨ 65 ≤ ((M302.2.1 77 65).toInt).toNat ∧ ((M302.2.1 77 65).toInt).toNat ≤ 69) ∨ 112 ≤ 115 ∧ 115 ≤ 114 ∧ 40 ≤ ((M302.2.1 77 65).toInt).toNat ∨ 115 = 115 ∨ 115 = 116 by omega)
          refine to_an (pc := 61) rw_226_61 rfl (to_dupr (pc := 62) rw_226_62 ?_)
          have c_321 : M318.2.1 77 65 = (M302.2.1 77 65) := (W_n W317 (fun z => absurd z.1 (by decide)) rfl)
          refine tt_gI (pc := 63) rw_226_63 (g_o hG319 rfl) (v := (M302.2.1 77 65)) c_321 (to_c (pc := 66) rw_226_66 (x := (1 : Int32)) rfl rfl (s_add (pc := 67) rw_226_67 (A := (M302.2.1 77 65).toInt) (B := 1) rfl rfl (by omega) (fun v322 e323 => s_pI (pc := 68) rw_226_68 hG319 rfl (fun M325 W324 => ?_))))
          have hG326 := g_w hG319 W324 (A := v322.toInt) rfl (lo := 0) (hi := 48) rfl rfl (by omega) (by decide)
          have F327 := FR.w F320 W324 (show 77 = 77 ∧ (65 = 4 ∨ 65 = 5 ∨ 7 ≤ 65 ∧ 65 ≤ 10) ∨ 77 = 77 ∧ (65 = 59 ∨ 65 ≤ 65 ∧ 65 ≤ 69) ∨ 112 ≤ 77 ∧ 77 ≤ 114 ∧ 40 ≤ 65 ∨ 77 = 115 ∨ 77 = 116 by decide)
          refine to_an (pc := 71) rw_226_71 rfl (to_c (pc := 72) rw_226_72 (x := (0 : Int32)) rfl rfl (s_pI (pc := 73) rw_226_73 hG326 rfl (fun M329 W328 => ?_)))
          have hG330 := g_w hG326 W328 (A := 0) rfl (lo := 0) (hi := 1) rfl rfl (by omega) (by decide)
          have F331 := FR.w F327 W328 (show 77 = 77 ∧ (68 = 4 ∨ 68 = 5 ∨ 7 ≤ 68 ∧ 68 ≤ 10) ∨ 77 = 77 ∧ (68 = 59 ∨ 65 ≤ 68 ∧ 68 ≤ 69) ∨ 112 ≤ 77 ∧ 77 ≤ 114 ∧ 40 ≤ 68 ∨ 77 = 115 ∨ 77 = 116 by decide)
          refine to_an (pc := 76) rw_226_76 rfl (s_v (pc := 77) rw_226_77 (dp0 hd (by decide)) (ls0 := [.ref 77]) rfl (Nat.le_of_ble_eq_true rfl) (Nat.le_of_ble_eq_true rfl) rfl (to_rc rfl rfl rfl (g_o hG330 rfl)) rfl ?_)
          have c_332 : M329.2.1 77 7 = (M.2.1 77 7) := (W_n W328 (by decide) (W_n W324 (by decide) (W_n W317 (fun z => absurd z.1 (by decide)) (F_n F297 (show ¬ (77 = 77 ∧ (7 = 59 ∨ 7 = 65 ∨ 7 = 66) ∨ 112 ≤ 77 ∧ 77 ≤ 114 ∧ 40 ≤ 7 ∨ 77 = 116) by decide) (W_n W278 (by decide) rfl)))))
          have t_333 : (M329.2.1 77 7).toInt = (M.2.1 77 7).toInt := congrArg Int32.toInt c_332
          have c_334 : M329.2.1 77 6 = (M.2.1 77 6) := (W_n W328 (by decide) (W_n W324 (by decide) (W_n W317 (fun z => absurd z.1 (by decide)) (F_n F297 (show ¬ (77 = 77 ∧ (6 = 59 ∨ 6 = 65 ∨ 6 = 66) ∨ 112 ≤ 77 ∧ 77 ≤ 114 ∧ 40 ≤ 6 ∨ 77 = 116) by decide) (W_n W278 (by decide) rfl)))))
          have t_335 : (M329.2.1 77 6).toInt = (M.2.1 77 6).toInt := congrArg Int32.toInt c_334
          refine C_156 hX (dp1 hd (by decide)) hG330 (by omega)  (fun M341 hG337 F336 p_338 p_339 p_340 => ?_)
          have F342 := FR.c F331 F336 tg_308
          have b_343 := g_b hG337 (a := 77) (i := 7) (lo := 0) (hi := 500) rfl rfl
          have c_344 : M341.2.1 77 6 = (M.2.1 77 6) := (F_n F336 (show ¬ (77 = 77 ∧ 7 ≤ 6 ∧ 6 ≤ 10) by decide) c_334)
          have t_345 : (M341.2.1 77 6).toInt = (M.2.1 77 6).toInt := congrArg Int32.toInt c_344
          have b_346 := g_b hG337 (a := 77) (i := 8) (lo := 0) (hi := 5) rfl rfl
          refine to_c (pc := 80) rw_226_80 (x := (1 : Int32)) rfl rfl (s_r1 (pc := 81) rw_226_81 (A := 1) rfl (by decide) ?_)
          have c_347 : M341.2.1 77 59 = (M302.2.1 77 59) := (F_n F336 (show ¬ (77 = 77 ∧ 7 ≤ 59 ∧ 59 ≤ 10) by decide) (W_n W328 (by decide) (W_n W324 (by decide) (W_n W317 (fun z => absurd z.1 (by decide)) rfl))))
          have t_348 : (M341.2.1 77 59).toInt = (M302.2.1 77 59).toInt := congrArg Int32.toInt c_347
          have c_349 : M341.2.1 77 65 = v322 := (F_n F336 (show ¬ (77 = 77 ∧ 7 ≤ 65 ∧ 65 ≤ 10) by decide) (W_n W328 (by decide) (W_e W324)))
          have t_350 : (M341.2.1 77 65).toInt = v322.toInt := congrArg Int32.toInt c_349
          have c_351 : M341.2.1 77 66 = (M302.2.1 77 66) := (F_n F336 (show ¬ (77 = 77 ∧ 7 ≤ 66 ∧ 66 ≤ 10) by decide) (W_n W328 (by decide) (W_n W324 (by decide) (W_n W317 (fun z => absurd z.1 (by decide)) rfl))))
          have t_352 : (M341.2.1 77 66).toInt = (M302.2.1 77 66).toInt := congrArg Int32.toInt c_351
          have c_353 : M341.2.1 77 67 = (M.2.1 77 67) := (F_n F336 (show ¬ (77 = 77 ∧ 7 ≤ 67 ∧ 67 ≤ 10) by decide) (W_n W328 (by decide) (W_n W324 (by decide) (W_n W317 (fun z => absurd z.1 (by decide)) c_309))))
          have t_354 : (M341.2.1 77 67).toInt = (M.2.1 77 67).toInt := congrArg Int32.toInt c_353
          have c_355 : M341.2.1 77 68 = (0 : Int32) := (F_n F336 (show ¬ (77 = 77 ∧ 7 ≤ 68 ∧ 68 ≤ 10) by decide) (W_e W328))
          have k_356 : (0 : Int32).toInt = 0 := rfl
          have t_357 : (M341.2.1 77 68).toInt = (0 : Int32).toInt := congrArg Int32.toInt c_355
          have c_358 : M341.2.1 77 69 = v276 := (F_n F336 (show ¬ (77 = 77 ∧ 7 ≤ 69 ∧ 69 ≤ 10) by decide) (W_n W328 (by decide) (W_n W324 (by decide) (W_n W317 (fun z => absurd z.1 (by decide)) c_313))))
          have t_359 : (M341.2.1 77 69).toInt = v276.toInt := congrArg Int32.toInt c_358
          have k_361 : (4 : Int32).toInt = 4 := rfl
          have s_362 := Wx_f (M := M302) (M1 := M341) ((M302.2.1 77 65).toInt).toNat (fun i z => (F_n F336 (show ¬ (115 = 77 ∧ 7 ≤ i ∧ i ≤ 10) by omega) (W_n W328 (by omega) (W_n W324 (by omega) (W_n W317 (by omega) rfl)))))
          have s_363 : (M341.2.1 115 ((M302.2.1 77 65).toInt).toNat).toInt = (4 : Int32).toInt := by rw [show ((M302.2.1 77 65).toInt).toNat = ((M302.2.1 77 65).toInt).toNat by omega]; exact congrArg Int32.toInt (F_n F336 (show ¬ (115 = 77 ∧ 7 ≤ (((M302.2.1 77 65).toInt).toNat) ∧ (((M302.2.1 77 65).toInt).toNat) ≤ 10) by omega) (W_n W328 (by omega) (W_n W324 (by omega) (W_e W317))))
          have s_364 := Wx_s M341 ((M302.2.1 77 65).toInt).toNat
          have j_360 : QK M341 := QK_i (by unfold QK_c; rw [show ((M341.2.1 77 65).toInt).toNat = ((M302.2.1 77 65).toInt).toNat + 1 by omega]; refine ⟨by omega, by omega, by omega, by omega⟩) (fun i z => by
              by_cases ei : i = ((M302.2.1 77 65).toInt).toNat
              · rw [ei]; omega
              · rw [(F_n F336 (show ¬ (115 = 77 ∧ 7 ≤ i ∧ i ≤ 10) by omega) (W_n W328 (by omega) (W_n W324 (by omega) (W_n W317 (by omega) rfl))))]; exact p_299.2.1 i (by omega)) (by rw [(F_n F336 (show ¬ (77 = 77 ∧ 7 ≤ 59 ∧ 59 ≤ 10) by decide) (W_n W328 (by omega) (W_n W324 (by omega) (W_n W317 (by omega) rfl))))]; exact KN_f (fun a i z => (F_n F336 (show ¬ (a = 77 ∧ 7 ≤ i ∧ i ≤ 10) by omega) (W_n W328 (by /-r77,68-/ omega) (W_n W324 (by /-r77,65-/ omega) (W_n W317 (by /-r115-/ omega) rfl))))) p_299.2.2)
          exact h (1 : Int32) M341 hG337 F342 (by decide) (by decide) (by omega) (by omega) (by omega) (by omega) (fun _ => j_360)
        · refine to_an (pc := 9) rw_224_9 rfl (to_c (pc := 10) rw_224_10 (x := (2 : Int32)) rfl rfl (s_v (pc := 11) rw_224_11 (dp1 hd (by decide)) (ls0 := [.ref 77, .int (2 : Int32)]) rfl (Nat.le_of_ble_eq_true rfl) (Nat.le_of_ble_eq_true rfl) rfl (to_rc rfl rfl rfl (g_o hG rfl)) rfl (to_an (pc := 0) rw_152_0 rfl (to_in (pc := 1) rw_152_1 rfl (s_pI (pc := 2) rw_152_2 hG rfl (fun M366 W365 => ?_))))))
          have hG367 := g_wf hG W365 rfl rfl (by decide)
          have F368 := FR.w F0 W365 (show 77 = 77 ∧ (4 = 4 ∨ 4 = 5 ∨ 7 ≤ 4 ∧ 4 ≤ 10) ∨ 77 = 77 ∧ (4 = 59 ∨ 65 ≤ 4 ∧ 4 ≤ 69) ∨ 112 ≤ 77 ∧ 77 ≤ 114 ∧ 40 ≤ 4 ∨ 77 = 115 ∨ 77 = 116 by decide)
          refine to_an (pc := 5) rw_152_5 rfl (to_an (pc := 6) rw_152_6 rfl ?_)
          have c_369 : M366.2.1 77 10 = (M.2.1 77 10) := (W_n W365 (by decide) rfl)
          have b_370 := g_b hG (a := 77) (i := 10) (lo := 0) (hi := 500) rfl rfl
          refine tt_gI (pc := 7) rw_152_7 (g_o hG367 rfl) (v := (M.2.1 77 10)) c_369 (s_pI (pc := 10) rw_152_10 hG367 rfl (fun M372 W371 => ?_))
          have hG373 := g_wf hG367 W371 rfl rfl (by decide)
          have F374 := FR.w F368 W371 (show 77 = 77 ∧ (5 = 4 ∨ 5 = 5 ∨ 7 ≤ 5 ∧ 5 ≤ 10) ∨ 77 = 77 ∧ (5 = 59 ∨ 65 ≤ 5 ∧ 5 ≤ 69) ∨ 112 ≤ 77 ∧ 77 ≤ 114 ∧ 40 ≤ 5 ∨ 77 = 115 ∨ 77 = 116 by decide)
          refine to_c (pc := 13) rw_152_13 (x := (0 : Int32)) rfl rfl (s_r1 (pc := 14) rw_152_14 (A := 0) rfl (by decide) (s_r1 (pc := 14) rw_224_14 (A := 0) rfl (by decide) (b_ine_f (pc := 37) rw_226_37 (A := 0) rfl (by decide) (to_c (pc := 40) rw_226_40 (x := (0 : Int32)) rfl rfl (s_r1 (pc := 41) rw_226_41 (A := 0) rfl (by decide) ?_)))))
          have k_375 : (0 : Int32).toInt = 0 := rfl
          have c_376 : M372.2.1 77 7 = (M.2.1 77 7) := (W_n W371 (by decide) (W_n W365 (by decide) rfl))
          have t_377 : (M372.2.1 77 7).toInt = (M.2.1 77 7).toInt := congrArg Int32.toInt c_376
          have c_378 : M372.2.1 77 6 = (M.2.1 77 6) := (W_n W371 (by decide) (W_n W365 (by decide) rfl))
          have t_379 : (M372.2.1 77 6).toInt = (M.2.1 77 6).toInt := congrArg Int32.toInt c_378
          have c_380 : M372.2.1 77 8 = (M.2.1 77 8) := (W_n W371 (by decide) (W_n W365 (by decide) rfl))
          have t_381 : (M372.2.1 77 8).toInt = (M.2.1 77 8).toInt := congrArg Int32.toInt c_380
          exact h (0 : Int32) M372 hG373 F374 (by decide) (by decide) (by omega) (by omega) (by omega) (by omega) (fun z => absurd z (by omega))
    · refine to_c (pc := 16) rw_158_16 (x := (1 : Int32)) rfl rfl (to_go (pc := 17) rw_158_17 (s_r1 (pc := 21) rw_158_21 (A := 1) rfl (by decide) (b_ine_t (pc := 6) rw_226_6 (A := 1) rfl (by decide) (to_an (pc := 18) rw_226_18 rfl (tt_gI (pc := 19) rw_226_19 (g_o hG rfl) (v := (M.2.1 77 9)) rfl (to_c (pc := 22) rw_226_22 (x := (12 : Int32)) rfl rfl (b_cne_f (pc := 24) rw_226_24 (A := (M.2.1 77 9).toInt) (B := 12) rfl rfl (by omega) (to_c (pc := 27) rw_226_27 (x := (3 : Int32)) rfl rfl (to_go (pc := 28) rw_226_28 (to_isn (pc := 32) rw_226_32 (ls2 := [.ref 77, .int (3 : Int32)]) rfl rfl (to_an (pc := 33) rw_226_33 rfl ?_)))))))))))
      refine s_v (pc := 34) rw_226_34 (dp0 hd (by decide)) (ls0 := [.ref 77]) rfl (Nat.le_of_ble_eq_true rfl) (Nat.le_of_ble_eq_true rfl) rfl (to_rc rfl rfl rfl (g_o hG rfl)) rfl (to_an (pc := 0) rw_224_0 rfl (tt_gI (pc := 1) rw_224_1 (g_o hG rfl) (v := (M.2.1 77 69)) rfl (to_c (pc := 4) rw_224_4 (x := (40 : Int32)) rfl rfl (b_cne (pc := 6) rw_224_6 (A := (M.2.1 77 69).toInt) (B := 40) rfl rfl (fun h382 => ?_) (fun h382 => ?_)))))
      · refine to_an (pc := 15) rw_224_15 rfl (to_dupr (pc := 16) rw_224_16 (tt_gI (pc := 17) rw_224_17 (g_o hG rfl) (v := (M.2.1 77 69)) rfl (to_c (pc := 20) rw_224_20 (x := (1 : Int32)) rfl rfl (s_add (pc := 21) rw_224_21 (A := (M.2.1 77 69).toInt) (B := 1) rfl rfl (by omega) (fun v383 e384 => s_pI (pc := 22) rw_224_22 hG rfl (fun M386 W385 => ?_))))))
        have hG387 := g_w hG W385 (A := v383.toInt) rfl (lo := 0) (hi := 40) rfl rfl (by omega) (by decide)
        have F388 := FR.w F0 W385 (show 77 = 77 ∧ (69 = 4 ∨ 69 = 5 ∨ 7 ≤ 69 ∧ 69 ≤ 10) ∨ 77 = 77 ∧ (69 = 59 ∨ 65 ≤ 69 ∧ 69 ≤ 69) ∨ 112 ≤ 77 ∧ 77 ≤ 114 ∧ 40 ≤ 69 ∨ 77 = 115 ∨ 77 = 116 by decide)
        refine to_c (pc := 25) rw_224_25 (x := (1 : Int32)) rfl rfl (s_r1 (pc := 26) rw_224_26 (A := 1) rfl (by decide) (b_ine_t (pc := 37) rw_226_37 (A := 1) rfl (by decide) (to_an (pc := 42) rw_226_42 rfl (to_an (pc := 43) rw_226_43 rfl (to_in (pc := 44) rw_226_44 rfl (s_v (pc := 45) rw_226_45 (dp0 hd (by decide)) (ls0 := [.ref 77, .int (3 : Int32)]) rfl (Nat.le_of_ble_eq_true rfl) (Nat.le_of_ble_eq_true rfl) rfl (to_rc rfl rfl rfl (g_o hG387 rfl)) rfl (to_in (pc := 0) rw_220_0 rfl (to_c (pc := 1) rw_220_1 (x := (2 : Int32)) rfl rfl (b_cne_t (pc := 2) rw_220_2 (A := 3) (B := 2) rfl rfl (by decide) (to_in (pc := 9) rw_220_9 rfl (to_c (pc := 10) rw_220_10 (x := (3 : Int32)) rfl rfl ?_)))))))))))
        refine b_cne_f (pc := 11) rw_220_11 (A := 3) (B := 3) rfl rfl (by decide) (to_c (pc := 14) rw_220_14 (x := (2 : Int32)) rfl rfl (to_go (pc := 15) rw_220_15 (to_r0 (pc := 28) rw_220_28 (s_v (pc := 48) rw_226_48 (dp0 hd (by decide)) (ls0 := [.ref 77, .int (2 : Int32), .null, .null, .null]) rfl (Nat.le_of_ble_eq_true rfl) (Nat.le_of_ble_eq_true rfl) rfl (to_rc rfl rfl rfl (g_o hG387 rfl)) rfl ?_))))
        have k_389 : (2 : Int32).toInt = 2 := rfl
        have c_390 : M386.2.1 77 59 = (M.2.1 77 59) := (W_n W385 (by decide) rfl)
        have t_391 : (M386.2.1 77 59).toInt = (M.2.1 77 59).toInt := congrArg Int32.toInt c_390
        have c_392 : M386.2.1 77 65 = (M.2.1 77 65) := (W_n W385 (by decide) rfl)
        have t_393 : (M386.2.1 77 65).toInt = (M.2.1 77 65).toInt := congrArg Int32.toInt c_392
        have c_394 : M386.2.1 77 66 = (M.2.1 77 66) := (W_n W385 (by decide) rfl)
        have t_395 : (M386.2.1 77 66).toInt = (M.2.1 77 66).toInt := congrArg Int32.toInt c_394
        have c_396 : M386.2.1 77 67 = (M.2.1 77 67) := (W_n W385 (by decide) rfl)
        have t_397 : (M386.2.1 77 67).toInt = (M.2.1 77 67).toInt := congrArg Int32.toInt c_396
        have c_398 : M386.2.1 77 68 = (M.2.1 77 68) := (W_n W385 (by decide) rfl)
        have t_399 : (M386.2.1 77 68).toInt = (M.2.1 77 68).toInt := congrArg Int32.toInt c_398
        have c_400 : M386.2.1 77 69 = v383 := (W_e W385)
        have t_401 : (M386.2.1 77 69).toInt = v383.toInt := congrArg Int32.toInt c_400
        have s_403 := Wx_f (M := M) (M1 := M386) ((M.2.1 77 65).toInt).toNat (fun i z => (W_n W385 (by omega) rfl))
        have j_402 : QK M386 := QK_i (by unfold QK_c; rw [show ((M386.2.1 77 65).toInt).toNat = ((M.2.1 77 65).toInt).toNat by omega]; refine ⟨by omega, by omega, by omega, by omega⟩) (fun i z => by rw [(W_n W385 (by omega) rfl)]; exact q2.2.1 i (by omega)) (by rw [(W_n W385 (by omega) rfl)]; exact KN_f (fun a i z => (W_n W385 (by /-r77,69-/ omega) rfl)) q2.2.2)
        refine C_223 hX (dp1 hd (by decide)) hG387 (by omega) (by omega) (by omega) j_402 (l := (2 : Int32)) (fun M409 hG405 F404 p_406 p_407 p_408 => ?_)
        have F410 := FR.c F388 F404 tg_307
        have s_411 := p_407
        have s_412 : Wo M386 ((M386.2.1 77 65).toInt).toNat = Wo M ((M.2.1 77 65).toInt).toNat := by rw [show (M386.2.1 77 65) = (M.2.1 77 65) from (W_n W385 (by omega) rfl)]; exact (Wx_f (M := M) (M1 := M386) _ (fun i z => (W_n W385 (by omega) rfl))).1
        have b_413 := g_b hG405 (a := 77) (i := 59) (lo := 0) (hi := 40) rfl rfl
        have b_414 := g_b hG405 (a := 77) (i := 65) (lo := 0) (hi := 48) rfl rfl
        have b_415 := g_b hG405 (a := 77) (i := 66) (lo := 0) (hi := 40) rfl rfl
        have c_416 : M409.2.1 77 67 = (M.2.1 77 67) := (F_n F404 (show ¬ (77 = 77 ∧ (67 = 59 ∨ 67 = 65 ∨ 67 = 66) ∨ 112 ≤ 77 ∧ 77 ≤ 114 ∧ 40 ≤ 67 ∨ 77 = 116) by decide) c_396)
        have t_417 : (M409.2.1 77 67).toInt = (M.2.1 77 67).toInt := congrArg Int32.toInt c_416
        have c_418 : M409.2.1 77 68 = (M.2.1 77 68) := (F_n F404 (show ¬ (77 = 77 ∧ (68 = 59 ∨ 68 = 65 ∨ 68 = 66) ∨ 112 ≤ 77 ∧ 77 ≤ 114 ∧ 40 ≤ 68 ∨ 77 = 116) by decide) c_398)
        have t_419 : (M409.2.1 77 68).toInt = (M.2.1 77 68).toInt := congrArg Int32.toInt c_418
        have c_420 : M409.2.1 77 69 = v383 := (F_n F404 (show ¬ (77 = 77 ∧ (69 = 59 ∨ 69 = 65 ∨ 69 = 66) ∨ 112 ≤ 77 ∧ 77 ≤ 114 ∧ 40 ≤ 69 ∨ 77 = 116) by decide) c_400)
        have t_421 : (M409.2.1 77 69).toInt = v383.toInt := congrArg Int32.toInt c_420
        have s_422 := QK_e p_406
        have s_423 := Wx_b M409 ((M409.2.1 77 65).toInt).toNat
        refine to_an (pc := 51) rw_226_51 rfl (s_gR (pc := 52) rw_226_52 hG405 rfl (v := 115) rfl (to_an (pc := 55) rw_226_55 rfl (tt_gI (pc := 56) rw_226_56 (g_o hG405 rfl) (v := (M409.2.1 77 65)) rfl (to_in (pc := 59) rw_226_59 rfl (s_ias (pc := 60) rw_226_60 hG405 rfl (n := 64) rfl (A := (M409.2.1 77 65).toInt) rfl (by omega) (by omega) (fun M425 W424 => ?_))))))
        have hG426 := g_w hG405 W424 (A := 3) rfl (lo := 0) (hi := 4) rfl rfl (by omega) (by decide)
        have F427 := FR.w F410 W424 (show 115 = 77 ∧ (((M409.2.1 77 65).toInt).toNat = 4 ∨ ((M409.2.1 77 65).toInt).toNat = 5 ∨ 7 ≤ ((M409.2.1 77 65).toInt).toNat ∧ ((M409.2.1 77 65).toInt).toNat ≤ 10) ∨ 115 = 77 ∧ (((M409.2.1 77 65).toInt).toNat = 59 ∨ 65 ≤ ((M409.2.1 77 65).toInt).toNat ∧ ((M409.2.1 77 65).toInt).toNat ≤ 69) ∨ 112 ≤ 115 ∧ 115 ≤ 114 ∧ 40 ≤ ((M409.2.1 77 65).toInt).toNat ∨ 115 = 115 ∨ 115 = 116 by omega)
        refine to_an (pc := 61) rw_226_61 rfl (to_dupr (pc := 62) rw_226_62 ?_)
        have c_428 : M425.2.1 77 65 = (M409.2.1 77 65) := (W_n W424 (fun z => absurd z.1 (by decide)) rfl)
        refine tt_gI (pc := 63) rw_226_63 (g_o hG426 rfl) (v := (M409.2.1 77 65)) c_428 (to_c (pc := 66) rw_226_66 (x := (1 : Int32)) rfl rfl (s_add (pc := 67) rw_226_67 (A := (M409.2.1 77 65).toInt) (B := 1) rfl rfl (by omega) (fun v429 e430 => s_pI (pc := 68) rw_226_68 hG426 rfl (fun M432 W431 => ?_))))
        have hG433 := g_w hG426 W431 (A := v429.toInt) rfl (lo := 0) (hi := 48) rfl rfl (by omega) (by decide)
        have F434 := FR.w F427 W431 (show 77 = 77 ∧ (65 = 4 ∨ 65 = 5 ∨ 7 ≤ 65 ∧ 65 ≤ 10) ∨ 77 = 77 ∧ (65 = 59 ∨ 65 ≤ 65 ∧ 65 ≤ 69) ∨ 112 ≤ 77 ∧ 77 ≤ 114 ∧ 40 ≤ 65 ∨ 77 = 115 ∨ 77 = 116 by decide)
        refine to_an (pc := 71) rw_226_71 rfl (to_c (pc := 72) rw_226_72 (x := (0 : Int32)) rfl rfl (s_pI (pc := 73) rw_226_73 hG433 rfl (fun M436 W435 => ?_)))
        have hG437 := g_w hG433 W435 (A := 0) rfl (lo := 0) (hi := 1) rfl rfl (by omega) (by decide)
        have F438 := FR.w F434 W435 (show 77 = 77 ∧ (68 = 4 ∨ 68 = 5 ∨ 7 ≤ 68 ∧ 68 ≤ 10) ∨ 77 = 77 ∧ (68 = 59 ∨ 65 ≤ 68 ∧ 68 ≤ 69) ∨ 112 ≤ 77 ∧ 77 ≤ 114 ∧ 40 ≤ 68 ∨ 77 = 115 ∨ 77 = 116 by decide)
        refine to_an (pc := 76) rw_226_76 rfl (s_v (pc := 77) rw_226_77 (dp0 hd (by decide)) (ls0 := [.ref 77]) rfl (Nat.le_of_ble_eq_true rfl) (Nat.le_of_ble_eq_true rfl) rfl (to_rc rfl rfl rfl (g_o hG437 rfl)) rfl ?_)
        have c_439 : M436.2.1 77 7 = (M.2.1 77 7) := (W_n W435 (by decide) (W_n W431 (by decide) (W_n W424 (fun z => absurd z.1 (by decide)) (F_n F404 (show ¬ (77 = 77 ∧ (7 = 59 ∨ 7 = 65 ∨ 7 = 66) ∨ 112 ≤ 77 ∧ 77 ≤ 114 ∧ 40 ≤ 7 ∨ 77 = 116) by decide) (W_n W385 (by decide) rfl)))))
        have t_440 : (M436.2.1 77 7).toInt = (M.2.1 77 7).toInt := congrArg Int32.toInt c_439
        have c_441 : M436.2.1 77 6 = (M.2.1 77 6) := (W_n W435 (by decide) (W_n W431 (by decide) (W_n W424 (fun z => absurd z.1 (by decide)) (F_n F404 (show ¬ (77 = 77 ∧ (6 = 59 ∨ 6 = 65 ∨ 6 = 66) ∨ 112 ≤ 77 ∧ 77 ≤ 114 ∧ 40 ≤ 6 ∨ 77 = 116) by decide) (W_n W385 (by decide) rfl)))))
        have t_442 : (M436.2.1 77 6).toInt = (M.2.1 77 6).toInt := congrArg Int32.toInt c_441
        refine C_156 hX (dp1 hd (by decide)) hG437 (by omega)  (fun M448 hG444 F443 p_445 p_446 p_447 => ?_)
        have F449 := FR.c F438 F443 tg_308
        have b_450 := g_b hG444 (a := 77) (i := 7) (lo := 0) (hi := 500) rfl rfl
        have c_451 : M448.2.1 77 6 = (M.2.1 77 6) := (F_n F443 (show ¬ (77 = 77 ∧ 7 ≤ 6 ∧ 6 ≤ 10) by decide) c_441)
        have t_452 : (M448.2.1 77 6).toInt = (M.2.1 77 6).toInt := congrArg Int32.toInt c_451
        have b_453 := g_b hG444 (a := 77) (i := 8) (lo := 0) (hi := 5) rfl rfl
        refine to_c (pc := 80) rw_226_80 (x := (1 : Int32)) rfl rfl (s_r1 (pc := 81) rw_226_81 (A := 1) rfl (by decide) ?_)
        have k_454 : (1 : Int32).toInt = 1 := rfl
        have c_455 : M448.2.1 77 59 = (M409.2.1 77 59) := (F_n F443 (show ¬ (77 = 77 ∧ 7 ≤ 59 ∧ 59 ≤ 10) by decide) (W_n W435 (by decide) (W_n W431 (by decide) (W_n W424 (fun z => absurd z.1 (by decide)) rfl))))
        have t_456 : (M448.2.1 77 59).toInt = (M409.2.1 77 59).toInt := congrArg Int32.toInt c_455
        have c_457 : M448.2.1 77 65 = v429 := (F_n F443 (show ¬ (77 = 77 ∧ 7 ≤ 65 ∧ 65 ≤ 10) by decide) (W_n W435 (by decide) (W_e W431)))
        have t_458 : (M448.2.1 77 65).toInt = v429.toInt := congrArg Int32.toInt c_457
        have c_459 : M448.2.1 77 66 = (M409.2.1 77 66) := (F_n F443 (show ¬ (77 = 77 ∧ 7 ≤ 66 ∧ 66 ≤ 10) by decide) (W_n W435 (by decide) (W_n W431 (by decide) (W_n W424 (fun z => absurd z.1 (by decide)) rfl))))
        have t_460 : (M448.2.1 77 66).toInt = (M409.2.1 77 66).toInt := congrArg Int32.toInt c_459
        have c_461 : M448.2.1 77 67 = (M.2.1 77 67) := (F_n F443 (show ¬ (77 = 77 ∧ 7 ≤ 67 ∧ 67 ≤ 10) by decide) (W_n W435 (by decide) (W_n W431 (by decide) (W_n W424 (fun z => absurd z.1 (by decide)) c_416))))
        have t_462 : (M448.2.1 77 67).toInt = (M.2.1 77 67).toInt := congrArg Int32.toInt c_461
        have c_463 : M448.2.1 77 68 = (0 : Int32) := (F_n F443 (show ¬ (77 = 77 ∧ 7 ≤ 68 ∧ 68 ≤ 10) by decide) (W_e W435))
        have k_464 : (0 : Int32).toInt = 0 := rfl
        have t_465 : (M448.2.1 77 68).toInt = (0 : Int32).toInt := congrArg Int32.toInt c_463
        have c_466 : M448.2.1 77 69 = v383 := (F_n F443 (show ¬ (77 = 77 ∧ 7 ≤ 69 ∧ 69 ≤ 10) by decide) (W_n W435 (by decide) (W_n W431 (by decide) (W_n W424 (fun z => absurd z.1 (by decide)) c_420))))
        have t_467 : (M448.2.1 77 69).toInt = v383.toInt := congrArg Int32.toInt c_466
        have k_469 : (3 : Int32).toInt = 3 := rfl
        have s_470 := Wx_f (M := M409) (M1 := M448) ((M409.2.1 77 65).toInt).toNat (fun i z => (F_n F443 (show ¬ (115 = 77 ∧ 7 ≤ i ∧ i ≤ 10) by omega) (W_n W435 (by omega) (W_n W431 (by omega) (W_n W424 (by omega) rfl)))))
        have s_471 : (M448.2.1 115 ((M409.2.1 77 65).toInt).toNat).toInt = (3 : Int32).toInt := by rw [show ((M409.2.1 77 65).toInt).toNat = ((M409.2.1 77 65).toInt).toNat by omega]; exact congrArg Int32.toInt (F_n F443 (show ¬ (115 = 77 ∧ 7 ≤ (((M409.2.1 77 65).toInt).toNat) ∧ (((M409.2.1 77 65).toInt).toNat) ≤ 10) by omega) (W_n W435 (by omega) (W_n W431 (by omega) (W_e W424))))
        have s_472 := Wx_s M448 ((M409.2.1 77 65).toInt).toNat
        have j_468 : QK M448 := QK_i (by unfold QK_c; rw [show ((M448.2.1 77 65).toInt).toNat = ((M409.2.1 77 65).toInt).toNat + 1 by omega]; refine ⟨by omega, by omega, by omega, by omega⟩) (fun i z => by
            by_cases ei : i = ((M409.2.1 77 65).toInt).toNat
            · rw [ei]; omega
            · rw [(F_n F443 (show ¬ (115 = 77 ∧ 7 ≤ i ∧ i ≤ 10) by omega) (W_n W435 (by omega) (W_n W431 (by omega) (W_n W424 (by omega) rfl))))]; exact p_406.2.1 i (by omega)) (by rw [(F_n F443 (show ¬ (77 = 77 ∧ 7 ≤ 59 ∧ 59 ≤ 10) by decide) (W_n W435 (by omega) (W_n W431 (by omega) (W_n W424 (by omega) rfl))))]; exact KN_f (fun a i z => (F_n F443 (show ¬ (a = 77 ∧ 7 ≤ i ∧ i ≤ 10) by omega) (W_n W435 (by /-r77,68-/ omega) (W_n W431 (by /-r77,65-/ omega) (W_n W424 (by /-r115-/ omega) rfl))))) p_406.2.2)
        exact h (1 : Int32) M448 hG444 F449 (by decide) (by decide) (by omega) (by omega) (by omega) (by omega) (fun _ => j_468)
      · refine to_an (pc := 9) rw_224_9 rfl (to_c (pc := 10) rw_224_10 (x := (2 : Int32)) rfl rfl (s_v (pc := 11) rw_224_11 (dp1 hd (by decide)) (ls0 := [.ref 77, .int (2 : Int32)]) rfl (Nat.le_of_ble_eq_true rfl) (Nat.le_of_ble_eq_true rfl) rfl (to_rc rfl rfl rfl (g_o hG rfl)) rfl (to_an (pc := 0) rw_152_0 rfl (to_in (pc := 1) rw_152_1 rfl (s_pI (pc := 2) rw_152_2 hG rfl (fun M474 W473 => ?_))))))
        have hG475 := g_wf hG W473 rfl rfl (by decide)
        have F476 := FR.w F0 W473 (show 77 = 77 ∧ (4 = 4 ∨ 4 = 5 ∨ 7 ≤ 4 ∧ 4 ≤ 10) ∨ 77 = 77 ∧ (4 = 59 ∨ 65 ≤ 4 ∧ 4 ≤ 69) ∨ 112 ≤ 77 ∧ 77 ≤ 114 ∧ 40 ≤ 4 ∨ 77 = 115 ∨ 77 = 116 by decide)
        refine to_an (pc := 5) rw_152_5 rfl (to_an (pc := 6) rw_152_6 rfl ?_)
        have c_477 : M474.2.1 77 10 = (M.2.1 77 10) := (W_n W473 (by decide) rfl)
        have b_478 := g_b hG (a := 77) (i := 10) (lo := 0) (hi := 500) rfl rfl
        refine tt_gI (pc := 7) rw_152_7 (g_o hG475 rfl) (v := (M.2.1 77 10)) c_477 (s_pI (pc := 10) rw_152_10 hG475 rfl (fun M480 W479 => ?_))
        have hG481 := g_wf hG475 W479 rfl rfl (by decide)
        have F482 := FR.w F476 W479 (show 77 = 77 ∧ (5 = 4 ∨ 5 = 5 ∨ 7 ≤ 5 ∧ 5 ≤ 10) ∨ 77 = 77 ∧ (5 = 59 ∨ 65 ≤ 5 ∧ 5 ≤ 69) ∨ 112 ≤ 77 ∧ 77 ≤ 114 ∧ 40 ≤ 5 ∨ 77 = 115 ∨ 77 = 116 by decide)
        refine to_c (pc := 13) rw_152_13 (x := (0 : Int32)) rfl rfl (s_r1 (pc := 14) rw_152_14 (A := 0) rfl (by decide) (s_r1 (pc := 14) rw_224_14 (A := 0) rfl (by decide) (b_ine_f (pc := 37) rw_226_37 (A := 0) rfl (by decide) (to_c (pc := 40) rw_226_40 (x := (0 : Int32)) rfl rfl (s_r1 (pc := 41) rw_226_41 (A := 0) rfl (by decide) ?_)))))
        have k_483 : (0 : Int32).toInt = 0 := rfl
        have c_484 : M480.2.1 77 7 = (M.2.1 77 7) := (W_n W479 (by decide) (W_n W473 (by decide) rfl))
        have t_485 : (M480.2.1 77 7).toInt = (M.2.1 77 7).toInt := congrArg Int32.toInt c_484
        have c_486 : M480.2.1 77 6 = (M.2.1 77 6) := (W_n W479 (by decide) (W_n W473 (by decide) rfl))
        have t_487 : (M480.2.1 77 6).toInt = (M.2.1 77 6).toInt := congrArg Int32.toInt c_486
        have c_488 : M480.2.1 77 8 = (M.2.1 77 8) := (W_n W479 (by decide) (W_n W473 (by decide) rfl))
        have t_489 : (M480.2.1 77 8).toInt = (M.2.1 77 8).toInt := congrArg Int32.toInt c_488
        exact h (0 : Int32) M480 hG481 F482 (by decide) (by decide) (by omega) (by omega) (by omega) (by omega) (fun z => absurd z (by omega))
end
