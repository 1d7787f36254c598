theorem tg_278 {M M1 : mm_M} (F : FR (fun a i : Nat => a = 99 ∨ a = 100) M M1) : ∀ a i : Nat, AB_r a i → M1.2.1 a i = M.2.1 a i := fun a i z => F_n F (show ¬ (a = 99 ∨ a = 100) by omega) rfl
theorem tg_279 {M M1 : mm_M} (F : FR (fun a i : Nat => a = 77 ∧ i = 42 ∨ a = 99 ∨ a = 100 ∨ a = 109) M M1) : ∀ a i : Nat, AB_r a i → M1.2.1 a i = M.2.1 a i := fun a i z => F_n F (show ¬ (a = 77 ∧ i = 42 ∨ a = 99 ∨ a = 100 ∨ a = 109) by omega) rfl
theorem tg_280 {M M1 : mm_M} (F : FR (fun a i : Nat => 94 ≤ a ∧ a ≤ 98) M M1) : ∀ a i : Nat, ST_r a i → M1.2.1 a i = M.2.1 a i := fun a i z => F_n F (show ¬ (94 ≤ a ∧ a ≤ 98) by omega) rfl
theorem tg_281 {M M1 : mm_M} (F : FR (fun a i : Nat => 94 ≤ a ∧ a ≤ 98) M M1) : ∀ a i : Nat, AB_r a i → M1.2.1 a i = M.2.1 a i := fun a i z => F_n F (show ¬ (94 ≤ a ∧ a ≤ 98) by omega) rfl
theorem tg_282 {M M1 : mm_M} (F : FR (fun a i : Nat => 94 ≤ a ∧ a ≤ 98) M M1) : ∀ a i : Nat, (a = 100 ∨ a = 77 ∧ i = 28) → M1.2.1 a i = M.2.1 a i := fun a i z => F_n F (show ¬ (94 ≤ a ∧ a ≤ 98) by omega) rfl
theorem tg_283 {M M1 : mm_M} (F : FR (fun a i : Nat => a = 77 ∧ (i = 4 ∨ i = 5 ∨ 7 ≤ i ∧ i ≤ 10) ∨ a = 77 ∧ (i = 44 ∨ i = 52) ∨ 101 ≤ a ∧ a ≤ 108) M M1) : ∀ a i : Nat, (81 ≤ a ∧ a ≤ 84) → M1.2.1 a i = M.2.1 a i := fun a i z => F_n F (show ¬ (a = 77 ∧ (i = 4 ∨ i = 5 ∨ 7 ≤ i ∧ i ≤ 10) ∨ a = 77 ∧ (i = 44 ∨ i = 52) ∨ 101 ≤ a ∧ a ≤ 108) by omega) rfl
theorem tg_284 {M M1 : mm_M} (F : FR (fun a i : Nat => a = 77 ∧ (i = 4 ∨ i = 5 ∨ 7 ≤ i ∧ i ≤ 10) ∨ a = 77 ∧ (i = 44 ∨ i = 52) ∨ 101 ≤ a ∧ a ≤ 108) M M1) : ∀ a i : Nat, WC_r a i → M1.2.1 a i = M.2.1 a i := fun a i z => F_n F (show ¬ (a = 77 ∧ (i = 4 ∨ i = 5 ∨ 7 ≤ i ∧ i ≤ 10) ∨ a = 77 ∧ (i = 44 ∨ i = 52) ∨ 101 ≤ a ∧ a ≤ 108) by omega) rfl
theorem tg_285 {M M1 : mm_M} (F : FR (fun a i : Nat => a = 77 ∧ (i = 4 ∨ i = 5 ∨ 7 ≤ i ∧ i ≤ 10) ∨ a = 77 ∧ (i = 44 ∨ i = 52) ∨ 101 ≤ a ∧ a ≤ 108) M M1) : ∀ a i : Nat, NJ_r a i → M1.2.1 a i = M.2.1 a i := fun a i z => F_n F (show ¬ (a = 77 ∧ (i = 4 ∨ i = 5 ∨ 7 ≤ i ∧ i ≤ 10) ∨ a = 77 ∧ (i = 44 ∨ i = 52) ∨ 101 ≤ a ∧ a ≤ 108) by omega) rfl
theorem tg_286 {M M1 : mm_M} (F : FR (fun a i : Nat => a = 77 ∧ (i = 4 ∨ i = 5 ∨ 7 ≤ i ∧ i ≤ 10) ∨ a = 77 ∧ (i = 44 ∨ i = 52) ∨ 101 ≤ a ∧ a ≤ 108) M M1) : ∀ a i : Nat, (a = 100 ∨ a = 77 ∧ i = 28) → M1.2.1 a i = M.2.1 a i := fun a i z => F_n F (show ¬ (a = 77 ∧ (i = 4 ∨ i = 5 ∨ 7 ≤ i ∧ i ≤ 10) ∨ a = 77 ∧ (i = 44 ∨ i = 52) ∨ 101 ≤ a ∧ a ≤ 108) by omega) rfl
theorem tg_287 {M M1 : mm_M} (F : FR (fun a i : Nat => a = 77 ∧ (i = 4 ∨ i = 5 ∨ 7 ≤ i ∧ i ≤ 10) ∨ a = 77 ∧ (i = 44 ∨ i = 52) ∨ 101 ≤ a ∧ a ≤ 108) M M1) : ∀ a i : Nat, KQ_r a i → M1.2.1 a i = M.2.1 a i := fun a i z => F_n F (show ¬ (a = 77 ∧ (i = 4 ∨ i = 5 ∨ 7 ≤ i ∧ i ≤ 10) ∨ a = 77 ∧ (i = 44 ∨ i = 52) ∨ 101 ≤ a ∧ a ≤ 108) by omega) rfl
theorem tg_288 {M M1 : mm_M} (F : FR (fun a i : Nat => a = 77 ∧ (i = 42 ∨ i = 43) ∨ 94 ≤ a ∧ a ≤ 98 ∨ a = 99 ∨ a = 100 ∨ a = 109 ∨ a = 110 ∨ a = 111) M M1) : ∀ a i : Nat, (81 ≤ a ∧ a ≤ 84) → M1.2.1 a i = M.2.1 a i := fun a i z => F_n F (show ¬ (a = 77 ∧ (i = 42 ∨ i = 43) ∨ 94 ≤ a ∧ a ≤ 98 ∨ a = 99 ∨ a = 100 ∨ a = 109 ∨ a = 110 ∨ a = 111) by omega) rfl
theorem tg_289 {M M1 : mm_M} (F : FR (fun a i : Nat => a = 77 ∧ (i = 42 ∨ i = 43) ∨ 94 ≤ a ∧ a ≤ 98 ∨ a = 99 ∨ a = 100 ∨ a = 109 ∨ a = 110 ∨ a = 111) M M1) : ∀ a i : Nat, WC_r a i → M1.2.1 a i = M.2.1 a i := fun a i z => F_n F (show ¬ (a = 77 ∧ (i = 42 ∨ i = 43) ∨ 94 ≤ a ∧ a ≤ 98 ∨ a = 99 ∨ a = 100 ∨ a = 109 ∨ a = 110 ∨ a = 111) by omega) rfl
theorem tg_290 {M M1 : mm_M} (F : FR (fun a i : Nat => a = 77 ∧ (i = 42 ∨ i = 43) ∨ 94 ≤ a ∧ a ≤ 98 ∨ a = 99 ∨ a = 100 ∨ a = 109 ∨ a = 110 ∨ a = 111) M M1) : ∀ a i : Nat, NJ_r a i → M1.2.1 a i = M.2.1 a i := fun a i z => F_n F (show ¬ (a = 77 ∧ (i = 42 ∨ i = 43) ∨ 94 ≤ a ∧ a ≤ 98 ∨ a = 99 ∨ a = 100 ∨ a = 109 ∨ a = 110 ∨ a = 111) by omega) rfl
theorem tg_291 {M M1 : mm_M} (F : FR (fun a i : Nat => a = 77 ∧ (i = 42 ∨ i = 43) ∨ 94 ≤ a ∧ a ≤ 98 ∨ a = 99 ∨ a = 100 ∨ a = 109 ∨ a = 110 ∨ a = 111) M M1) : ∀ a i : Nat, KQ_r a i → M1.2.1 a i = M.2.1 a i := fun a i z => F_n F (show ¬ (a = 77 ∧ (i = 42 ∨ i = 43) ∨ 94 ≤ a ∧ a ≤ 98 ∨ a = 99 ∨ a = 100 ∨ a = 109 ∨ a = 110 ∨ a = 111) by omega) rfl
theorem tg_292 : ∀ a i : Nat, (a = 99 ∨ a = 100) → (a = 77 ∧ (i = 42 ∨ i = 43) ∨ 94 ≤ a ∧ a ≤ 98 ∨ a = 99 ∨ a = 100 ∨ a = 109 ∨ a = 110 ∨ a = 111) := fun a i z => by omega
theorem tg_293 : ∀ a i : Nat, (a = 77 ∧ i = 42 ∨ a = 99 ∨ a = 100 ∨ a = 109) → (a = 77 ∧ (i = 42 ∨ i = 43) ∨ 94 ≤ a ∧ a ≤ 98 ∨ a = 99 ∨ a = 100 ∨ a = 109 ∨ a = 110 ∨ a = 111) := fun a i z => by omega
theorem tg_294 : ∀ a i : Nat, (94 ≤ a ∧ a ≤ 98) → (a = 77 ∧ (i = 42 ∨ i = 43) ∨ 94 ≤ a ∧ a ≤ 98 ∨ a = 99 ∨ a = 100 ∨ a = 109 ∨ a = 110 ∨ a = 111) := fun a i z => by omega
theorem tg_295 : ∀ a i : Nat, (a = 77 ∧ (i = 4 ∨ i = 5 ∨ 7 ≤ i ∧ i ≤ 10) ∨ a = 77 ∧ (i = 44 ∨ i = 52) ∨ 101 ≤ a ∧ a ≤ 108) → (a = 77 ∧ (1 ≤ i ∧ i ≤ 2 ∨ 4 ≤ i ∧ i ≤ 10 ∨ 42 ≤ i ∧ i ≤ 44 ∨ i = 52) ∨ 94 ≤ a ∧ a ≤ 111) := fun a i z => by omega
theorem tg_296 : ∀ a i : Nat, (a = 77 ∧ (i = 42 ∨ i = 43) ∨ 94 ≤ a ∧ a ≤ 98 ∨ a = 99 ∨ a = 100 ∨ a = 109 ∨ a = 110 ∨ a = 111) → (a = 77 ∧ (1 ≤ i ∧ i ≤ 2 ∨ 4 ≤ i ∧ i ≤ 10 ∨ 42 ≤ i ∧ i ≤ 44 ∨ i = 52) ∨ 94 ≤ a ∧ a ≤ 111) := fun a i z => by omega
theorem tg_297 : ∀ a i : Nat, (a = 77 ∧ (i = 1 ∨ 4 ≤ i ∧ i ≤ 10)) → (a = 77 ∧ (1 ≤ i ∧ i ≤ 2 ∨ 4 ≤ i ∧ i ≤ 10 ∨ 42 ≤ i ∧ i ≤ 44 ∨ i = 52) ∨ 94 ≤ a ∧ a ≤ 111) := fun a i z => by omega
theorem tg_298 : ∀ a i j : Nat, (a = 100 ∨ a = 77 ∧ i = 28) → ¬ (a = 111 ∧ i = j) := fun a i j z => by omega
theorem tg_299 : ∀ a i j : Nat, (a = 100 ∨ a = 77 ∧ i = 28) → ¬ (a = 110 ∧ i = j) := fun a i j z => by omega
theorem tg_300 : ∀ a i : Nat, (a = 100 ∨ a = 77 ∧ i = 28) → ¬ (a = 77 ∧ i = 43) := fun a i z => by omega
theorem tg_301 : ∀ a i : Nat, (a = 100 ∨ a = 77 ∧ i = 28) → ¬ (a = 77 ∧ i = 42) := fun a i z => by omega
theorem tg_302 : ∀ a i : Nat, (81 ≤ a ∧ a ≤ 84) → ¬ (a = 77 ∧ i = 52) := fun a i z => by omega
theorem tg_303 : ∀ a i : Nat, (81 ≤ a ∧ a ≤ 84) → ¬ (a = 77 ∧ i = 44) := fun a i z => by omega
theorem tg_304 : ∀ a i : Nat, (a = 100 ∨ a = 77 ∧ i = 28) → ¬ (a = 77 ∧ i = 52) := fun a i z => by omega
theorem tg_305 : ∀ a i : Nat, (a = 100 ∨ a = 77 ∧ i = 28) → ¬ (a = 77 ∧ i = 44) := fun a i z => by omega
set_option maxRecDepth 4000 in
set_option maxHeartbeats 0 in
theorem T_218_0 {X : mm_X} {d : Nat} {M : mm_M} {Q : Option Value → mm_M → Prop} (hX : g_X X) (hd : 3 ≤ d) (q1 : NJ M) (q2 : PS M) (q3 : AB M) (q4 : ST M) (q5 : (M.2.1 77 52).toInt ≤ 0) (h : ∀ (r : Int32) (M1 : mm_M), g_G M1 → FR md_do M M1 → PS M1 → Q (some (.int r)) M1) : ∀ nn9 : Nat, (∀ (N : mm_M) (x1 : Int32) (x2 : Int32), g_G N → FR md_do M N → (0 ≤ x1.toInt) → (x1.toInt ≤ 5) → (0 ≤ x2.toInt) → (x2.toInt ≤ 40) → (x2.toInt ≤ (N.2.1 77 44).toInt) → (DK N x2.toInt (x1.toInt).toNat) → (∀ i : Nat, i < (x1.toInt).toNat → 1 ≤ (N.2.1 111 i).toInt) → (AB N) → (PS N) → (3000 - (N.2.1 77 43).toInt) * 1000 + LSm N (x1.toInt).toNat < (nn9 : Int) → mm_T X d 217 22 [.ref 77, .int x1, .int x2] [] N Q) := by
  intro nn9
  induction nn9 with
  | zero =>
    intro N x1 x2 hG F0 g1 g2 g3 g4 g5 g6 g7 g8 g9 hm
    have b_1 := g_b hG (a := 77) (i := 43) (lo := 0) (hi := 3000) rfl rfl
    have b_2 := g_b hG (a := 77) (i := 44) (lo := 0) (hi := 40) rfl rfl
    have s_3 := LSm_nn hG (x1.toInt).toNat
    exfalso; omega
  | succ nn9 ih =>
    intro N x1 x2 hG F0 g1 g2 g3 g4 g5 g6 g7 g8 g9 hm
    have b_4 := g_b hG (a := 77) (i := 43) (lo := 0) (hi := 3000) rfl rfl
    have b_5 := g_b hG (a := 77) (i := 44) (lo := 0) (hi := 40) rfl rfl
    have s_6 := LSm_nn hG (x1.toInt).toNat
    refine to_in (pc := 22) rw_218_22 rfl (b_ile (pc := 23) rw_218_23 (A := x1.toInt) rfl (fun h7 => ?_) (fun h7 => ?_))
    · refine to_in (pc := 86) rw_218_86 rfl (to_an (pc := 87) rw_218_87 rfl (tt_gI (pc := 88) rw_218_88 (g_o hG rfl) (v := (N.2.1 77 44)) rfl (b_cne (pc := 91) rw_218_91 (A := x2.toInt) (B := (N.2.1 77 44).toInt) rfl rfl (fun h8 => ?_) (fun h8 => ?_))))
      · refine to_an (pc := 96) rw_218_96 rfl (tt_gI (pc := 97) rw_218_97 (g_o hG rfl) (v := (N.2.1 77 43)) rfl (to_c (pc := 100) rw_218_100 (x := (3000 : Int32)) rfl rfl (b_cne (pc := 103) rw_218_103 (A := (N.2.1 77 43).toInt) (B := 3000) rfl rfl (fun h9 => ?_) (fun h9 => ?_))))
        · refine to_an (pc := 108) rw_218_108 rfl (to_dupr (pc := 109) rw_218_109 (tt_gI (pc := 110) rw_218_110 (g_o hG rfl) (v := (N.2.1 77 43)) rfl (to_c (pc := 113) rw_218_113 (x := (1 : Int32)) rfl rfl (s_add (pc := 114) rw_218_114 (A := (N.2.1 77 43).toInt) (B := 1) rfl rfl (by omega) (fun v10 e11 => s_pI (pc := 115) rw_218_115 hG rfl (fun M13 W12 => ?_))))))
          have hG14 := g_w hG W12 (A := v10.toInt) rfl (lo := 0) (hi := 3000) rfl rfl (by omega) (by decide)
          have F15 := FR.w F0 W12 (show 77 = 77 ∧ (43 = 42 ∨ 43 = 43) ∨ 94 ≤ 77 ∧ 77 ≤ 98 ∨ 77 = 99 ∨ 77 = 100 ∨ 77 = 109 ∨ 77 = 110 ∨ 77 = 111 by decide)
          refine to_an (pc := 118) rw_218_118 rfl (s_gR (pc := 119) rw_218_119 hG14 rfl (v := 101) rfl (to_in (pc := 122) rw_218_122 rfl (s_ial (pc := 123) rw_218_123 hG14 rfl (n := 40) rfl rfl (A := x2.toInt) rfl (by omega) (by omega) (lo := 0) (hi := 2) rfl rfl (fun v16 w_17 _ _ => ?_))))
          have c_18 : M13.2.1 77 44 = (N.2.1 77 44) := (W_n W12 (by decide) rfl)
          have t_19 : (M13.2.1 77 44).toInt = (N.2.1 77 44).toInt := congrArg Int32.toInt c_18
          have j_21 := (AB_f (fun a i z => W_n W12 (by /-r77,43-/ omega) rfl) g8)
          have s_20 := AB_u (A := x2.toInt) j_21 (by omega) (by omega) (by omega)
          have t_22 := congrArg Int32.toInt w_17
          have t_23 : (M13.2.1 101 (x2.toInt).toNat).toInt = (N.2.1 101 (x2.toInt).toNat).toInt := congrArg Int32.toInt (W_n W12 (by omega) rfl)
          have t_24 : (M13.2.1 102 (x2.toInt).toNat).toInt = (N.2.1 102 (x2.toInt).toNat).toInt := congrArg Int32.toInt (W_n W12 (by omega) rfl)
          have t_25 : (M13.2.1 103 (x2.toInt).toNat).toInt = (N.2.1 103 (x2.toInt).toNat).toInt := congrArg Int32.toInt (W_n W12 (by omega) rfl)
          have t_26 : (M13.2.1 104 (x2.toInt).toNat).toInt = (N.2.1 104 (x2.toInt).toNat).toInt := congrArg Int32.toInt (W_n W12 (by omega) rfl)
          refine b_ine (pc := 124) rw_218_124 (A := v16.toInt) rfl (fun h27 => ?_) (fun h27 => ?_)
          · refine to_an (pc := 132) rw_218_132 rfl (s_gR (pc := 133) rw_218_133 hG14 rfl (v := 101) rfl (to_in (pc := 136) rw_218_136 rfl (s_ialk (pc := 137) rw_218_137 hG14 rfl (n := 40) rfl rfl (A := x2.toInt) rfl (by omega) (by omega) (v := v16) w_17 (to_c (pc := 138) rw_218_138 (x := (1 : Int32)) rfl rfl (b_cne (pc := 139) rw_218_139 (A := v16.toInt) (B := 1) rfl rfl (fun h30 => ?_) (fun h30 => ?_))))))
            · refine to_an (pc := 147) rw_218_147 rfl (s_gR (pc := 148) rw_218_148 hG14 rfl (v := 101) rfl (to_in (pc := 151) rw_218_151 rfl (s_ialk (pc := 152) rw_218_152 hG14 rfl (n := 40) rfl rfl (A := x2.toInt) rfl (by omega) (by omega) (v := v16) w_17 (to_c (pc := 153) rw_218_153 (x := (2 : Int32)) rfl rfl (b_cge_t (pc := 154) rw_218_154 (A := v16.toInt) (B := 2) rfl rfl (by omega) (to_an (pc := 163) rw_218_163 rfl (s_gR (pc := 164) rw_218_164 hG14 rfl (v := 102) rfl (to_in (pc := 167) rw_218_167 rfl (s_ial (pc := 168) rw_218_168 hG14 rfl (n := 40) rfl rfl (A := x2.toInt) rfl (by omega) (by omega) (lo := -1) (hi := 99) rfl rfl (fun v33 w_34 _ _ => ?_))))))))))
              have t_35 := congrArg Int32.toInt w_34
              have s_36 := DK_le g6 (by omega) (by omega) (by have z : N.2.1 101 (x2.toInt).toNat = v16 := (((W_n W12 (by omega) rfl)).symm.trans w_17); rw [z]; omega) (Or.inl (by omega))
              refine b_ine (pc := 169) rw_218_169 (A := v33.toInt) rfl (fun h37 => ?_) (fun h37 => ?_)
              · refine to_an (pc := 182) rw_218_182 rfl (s_gR (pc := 183) rw_218_183 hG14 rfl (v := 110) rfl (to_in (pc := 186) rw_218_186 rfl (to_in (pc := 187) rw_218_187 rfl (s_ias (pc := 188) rw_218_188 hG14 rfl (n := 5) rfl (A := x1.toInt) rfl (by omega) (by omega) (fun M39 W38 => ?_)))))
                have hG40 := g_w hG14 W38 (A := x2.toInt) rfl (lo := 0) (hi := 39) rfl rfl (by omega) (by decide)
                have F41 := FR.w F15 W38 (show 110 = 77 ∧ ((x1.toInt).toNat = 42 ∨ (x1.toInt).toNat = 43) ∨ 94 ≤ 110 ∧ 110 ≤ 98 ∨ 110 = 99 ∨ 110 = 100 ∨ 110 = 109 ∨ 110 = 110 ∨ 110 = 111 by omega)
                refine to_an (pc := 189) rw_218_189 rfl (s_gR (pc := 190) rw_218_190 hG40 rfl (v := 111) rfl (to_in (pc := 193) rw_218_193 rfl (to_an (pc := 194) rw_218_194 rfl (s_gR (pc := 195) rw_218_195 hG40 rfl (v := 102) rfl (to_in (pc := 198) rw_218_198 rfl (s_ialk (pc := 199) rw_218_199 hG40 rfl (n := 40) rfl rfl (A := x2.toInt) rfl (by omega) (by omega) (v := v33) (W_n W38 (by omega) w_34) (s_ias (pc := 200) rw_218_200 hG40 rfl (n := 5) rfl (A := x1.toInt) rfl (by omega) (by omega) (fun M45 W44 => ?_))))))))
                have hG46 := g_w hG40 W44 (A := v33.toInt) rfl (lo := 0) (hi := 99) rfl rfl (by omega) (by decide)
                have F47 := FR.w F41 W44 (show 111 = 77 ∧ ((x1.toInt).toNat = 42 ∨ (x1.toInt).toNat = 43) ∨ 94 ≤ 111 ∧ 111 ≤ 98 ∨ 111 = 99 ∨ 111 = 100 ∨ 111 = 109 ∨ 111 = 110 ∨ 111 = 111 by omega)
                refine s_inc (pc := 201) rw_218_201 (ls2 := fun v => [.ref 77, .int v, .int x2]) rfl rfl (fun _ => rfl) (A := x1.toInt) (B := 1) rfl rfl (by omega) (fun v48 e49 => s_inc (pc := 204) rw_218_204 (ls2 := fun v => [.ref 77, .int v48, .int v]) rfl rfl (fun _ => rfl) (A := x2.toInt) (B := 1) rfl rfl (by omega) (fun v50 e51 => to_go (pc := 207) rw_218_207 ?_))
                have c_52 : M45.2.1 77 44 = (N.2.1 77 44) := (W_n W44 (fun z => absurd z.1 (by decide)) (W_n W38 (fun z => absurd z.1 (by decide)) c_18))
                have t_53 : (M45.2.1 77 44).toInt = (N.2.1 77 44).toInt := congrArg Int32.toInt c_52
                have s_54 : LSm M45 (v48.toInt).toNat = LSm M45 ((x1.toInt).toNat + 1) := by rw [show (v48.toInt).toNat = (x1.toInt).toNat + 1 by omega]
                have s_55 := LSm_s (M := M45) (x1.toInt).toNat
                have s_56 : LSm M45 (x1.toInt).toNat = LSm N (x1.toInt).toNat := LSm_f _ (fun i z => (W_n W44 (by omega) (W_n W38 (by omega) (W_n W12 (by omega) rfl))))
                have s_57 : (M45.2.1 111 (x1.toInt).toNat).toInt = v33.toInt := by rw [show (x1.toInt).toNat = (x1.toInt).toNat by omega]; exact congrArg Int32.toInt (W_e W44)
                have j_58 := (AB_f (fun a i z => W_n W44 (by /-r111-/ omega) rfl) (AB_f (fun a i z => W_n W38 (by /-r110-/ omega) rfl) j_21))
                have j_59 := (PS_f (fun a i z => W_n W44 (tg_298 a i _ z) rfl) (PS_f (fun a i z => W_n W38 (tg_299 a i _ z) rfl) (PS_f (fun a i z => W_n W12 (tg_300 a i z) rfl) g9)))
                have c_60 : M45.2.1 77 43 = v10 := (W_n W44 (fun z => absurd z.1 (by decide)) (W_n W38 (fun z => absurd z.1 (by decide)) (W_e W12)))
                have t_61 : (M45.2.1 77 43).toInt = v10.toInt := congrArg Int32.toInt c_60
                exact ih M45 v48 v50 hG46 F47 (by omega) (by omega) (by omega) (by omega) (by omega) (by rw [show (v48.toInt).toNat = (x1.toInt).toNat + 1 by omega, show v50.toInt = x2.toInt + 1 by omega]; exact DK_push g6 (by omega) (by omega) (by have z : N.2.1 101 (x2.toInt).toNat = v16 := (((W_n W12 (by omega) rfl)).symm.trans w_17); rw [z]; omega) (Or.inl (by omega)) (fun r i z => (W_n W44 (by omega) (W_n W38 (by omega) (W_n W12 (by omega) rfl)))) (by rw [(W_n W44 (by omega) (W_e W38))] <;> omega)) (fun i z => by
                    by_cases ei : i = (x1.toInt).toNat
                    · rw [ei]; omega
                    · rw [(W_n W44 (by omega) (W_n W38 (by omega) (W_n W12 (by omega) rfl)))]; exact g7 i (by omega)) j_58 j_59 (by omega)
              · refine to_an (pc := 172) rw_218_172 rfl (s_gR (pc := 173) rw_218_173 hG14 rfl (v := 105) rfl (to_in (pc := 176) rw_218_176 rfl (s_ial (pc := 177) rw_218_177 hG14 rfl (n := 40) rfl rfl (A := x2.toInt) rfl (by omega) (by omega) (lo := 0) (hi := 40) rfl rfl (fun v62 w_63 _ _ => ?_))))
                have t_64 := congrArg Int32.toInt w_63
                have s_65 := DK_skip g6 (by omega) (by omega) (by have z : N.2.1 101 (x2.toInt).toNat = v16 := (((W_n W12 (by omega) rfl)).symm.trans w_17); rw [z]; omega) (Or.inl (by omega))
                have s_66 := s_65.2
                rw [(((W_n W12 (by omega) rfl)).symm.trans w_63)] at s_66
                refine to_isn (pc := 178) rw_218_178 (ls2 := [.ref 77, .int x1, .int v62]) rfl rfl (to_go (pc := 179) rw_218_179 ?_)
                have s_68 : LSm M13 (x1.toInt).toNat = LSm N (x1.toInt).toNat := LSm_f _ (fun i z => (W_n W12 (by omega) rfl))
                have j_69 := (PS_f (fun a i z => W_n W12 (tg_300 a i z) rfl) g9)
                have c_70 : M13.2.1 77 43 = v10 := (W_e W12)
                have t_71 : (M13.2.1 77 43).toInt = v10.toInt := congrArg Int32.toInt c_70
                exact ih M13 x1 v62 hG14 F15 (by omega) (by omega) (by omega) (by omega) (by omega) (DK_f (fun r i z => (W_n W12 (by omega) rfl)) (by have z := (s_65).1; rw [(((W_n W12 (by omega) rfl)).symm.trans w_63)] at z; exact z)) (fun i z => by rw [(W_n W12 (by omega) rfl)]; exact g7 i z) j_21 j_69 (by omega)
            · refine to_an (pc := 142) rw_218_142 rfl (to_in (pc := 143) rw_218_143 rfl (s_v (pc := 144) rw_218_144 (dp0 hd (by decide)) (ls0 := [.ref 77, .int x2, .null, .null]) rfl (Nat.le_of_ble_eq_true rfl) (Nat.le_of_ble_eq_true rfl) rfl (to_rc rfl rfl rfl (g_o hG14 rfl)) rfl ?_))
              have s_72 := AB_u (A := x2.toInt) j_21 (by omega) (by omega) (by omega)
              have t_73 : (M13.2.1 101 (x2.toInt).toNat).toInt = (N.2.1 101 (x2.toInt).toNat).toInt := congrArg Int32.toInt (W_n W12 (by omega) rfl)
              have t_74 : (M13.2.1 102 (x2.toInt).toNat).toInt = (N.2.1 102 (x2.toInt).toNat).toInt := congrArg Int32.toInt (W_n W12 (by omega) rfl)
              have t_75 : (M13.2.1 103 (x2.toInt).toNat).toInt = (N.2.1 103 (x2.toInt).toNat).toInt := congrArg Int32.toInt (W_n W12 (by omega) rfl)
              have t_76 : (M13.2.1 104 (x2.toInt).toNat).toInt = (N.2.1 104 (x2.toInt).toNat).toInt := congrArg Int32.toInt (W_n W12 (by omega) rfl)
              have s_77 := g_b hG14 (a := 103) (i := (x2.toInt).toNat) (lo := -1) (hi := 5) rfl rfl
              have j_78 := (PS_f (fun a i z => W_n W12 (tg_300 a i z) rfl) g9)
              refine C_217 hX (dp1 hd (by decide)) hG14 (by omega) (by omega) rfl rfl (by omega) (by omega) (by omega) (by omega) (by omega) j_78 (a := x2) (o := (M13.2.1 102 (x2.toInt).toNat)) (t := (M13.2.1 103 (x2.toInt).toNat)) (fun M82 hG80 F79 p_81 => ?_)
              have F83 := FR.c F15 F79 tg_292
              refine to_an (pc := 147) rw_218_147 rfl (s_gR (pc := 148) rw_218_148 hG80 rfl (v := 101) rfl (to_in (pc := 151) rw_218_151 rfl (s_ialk (pc := 152) rw_218_152 hG80 rfl (n := 40) rfl rfl (A := x2.toInt) rfl (by omega) (by omega) (v := v16) (F_n F79 (show ¬ (101 = 99 ∨ 101 = 100) by decide) w_17) (to_c (pc := 153) rw_218_153 (x := (2 : Int32)) rfl rfl (b_cge_f (pc := 154) rw_218_154 (A := v16.toInt) (B := 2) rfl rfl (by omega) (s_inc (pc := 157) rw_218_157 (ls2 := fun v => [.ref 77, .int x1, .int v]) rfl rfl (fun _ => rfl) (A := x2.toInt) (B := 1) rfl rfl (by omega) (fun v86 e87 => to_go (pc := 160) rw_218_160 ?_)))))))
              have c_88 : M82.2.1 77 44 = (N.2.1 77 44) := (F_n F79 (show ¬ (77 = 99 ∨ 77 = 100) by decide) c_18)
              have t_89 : (M82.2.1 77 44).toInt = (N.2.1 77 44).toInt := congrArg Int32.toInt c_88
              have s_90 : LSm M82 (x1.toInt).toNat = LSm N (x1.toInt).toNat := LSm_f _ (fun i z => (F_n F79 (show ¬ (111 = 99 ∨ 111 = 100) by decide) (W_n W12 (by omega) rfl)))
              have j_91 := (AB_f (tg_278 F79) j_21)
              have c_92 : M82.2.1 77 43 = v10 := (F_n F79 (show ¬ (77 = 99 ∨ 77 = 100) by decide) (W_e W12))
              have t_93 : (M82.2.1 77 43).toInt = v10.toInt := congrArg Int32.toInt c_92
              exact ih M82 x1 v86 hG80 F83 (by omega) (by omega) (by omega) (by omega) (by omega) (by rw [show v86.toInt = x2.toInt + 1 by omega]; exact (DK_f (fun r i z => (F_n F79 (show ¬ (r = 99 ∨ r = 100) by omega) (W_n W12 (by omega) rfl))) (DK_next g6 (Or.inl (by omega))))) (fun i z => by rw [(F_n F79 (show ¬ (111 = 99 ∨ 111 = 100) by decide) (W_n W12 (by omega) rfl))]; exact g7 i z) j_91 p_81 (by omega)
          · refine to_an (pc := 127) rw_218_127 rfl (to_in (pc := 128) rw_218_128 rfl (s_v (pc := 129) rw_218_129 (dp0 hd (by decide)) (ls0 := [.ref 77, .int x2, .null, .null, .null, .null, .null]) rfl (Nat.le_of_ble_eq_true rfl) (Nat.le_of_ble_eq_true rfl) rfl (to_rc rfl rfl rfl (g_o hG14 rfl)) rfl ?_))
            have s_94 := AB_u (A := x2.toInt) j_21 (by omega) (by omega) (by omega)
            have t_95 : (M13.2.1 101 (x2.toInt).toNat).toInt = (N.2.1 101 (x2.toInt).toNat).toInt := congrArg Int32.toInt (W_n W12 (by omega) rfl)
            have t_96 : (M13.2.1 102 (x2.toInt).toNat).toInt = (N.2.1 102 (x2.toInt).toNat).toInt := congrArg Int32.toInt (W_n W12 (by omega) rfl)
            have t_97 : (M13.2.1 103 (x2.toInt).toNat).toInt = (N.2.1 103 (x2.toInt).toNat).toInt := congrArg Int32.toInt (W_n W12 (by omega) rfl)
            have t_98 : (M13.2.1 104 (x2.toInt).toNat).toInt = (N.2.1 104 (x2.toInt).toNat).toInt := congrArg Int32.toInt (W_n W12 (by omega) rfl)
            have s_99 := g_b hG14 (a := 103) (i := (x2.toInt).toNat) (lo := -1) (hi := 5) rfl rfl
            have t_100 : (M13.2.1 102 (x2.toInt).toNat).toInt = (N.2.1 102 (x2.toInt).toNat).toInt := congrArg Int32.toInt (W_n W12 (by omega) rfl)
            have t_101 : (M13.2.1 102 (x2.toInt).toNat).toInt = (N.2.1 102 (x2.toInt).toNat).toInt := congrArg Int32.toInt (W_n W12 (by omega) rfl)
            have t_102 : (M13.2.1 103 (x2.toInt).toNat).toInt = (N.2.1 103 (x2.toInt).toNat).toInt := congrArg Int32.toInt (W_n W12 (by omega) rfl)
            have t_103 : (M13.2.1 104 (x2.toInt).toNat).toInt = (N.2.1 104 (x2.toInt).toNat).toInt := congrArg Int32.toInt (W_n W12 (by omega) rfl)
            have j_104 := (PS_f (fun a i z => W_n W12 (tg_300 a i z) rfl) g9)
            refine C_216 hX (dp1 hd (by decide)) hG14 (by omega) (by omega) (by omega) (by omega) (by omega) (by omega) j_104 (a := x2) (fun M108 hG106 F105 p_107 => ?_)
            have F109 := FR.c F15 F105 tg_293
            refine to_an (pc := 132) rw_218_132 rfl (s_gR (pc := 133) rw_218_133 hG106 rfl (v := 101) rfl (to_in (pc := 136) rw_218_136 rfl (s_ialk (pc := 137) rw_218_137 hG106 rfl (n := 40) rfl rfl (A := x2.toInt) rfl (by omega) (by omega) (v := v16) (F_n F105 (show ¬ (101 = 77 ∧ (x2.toInt).toNat = 42 ∨ 101 = 99 ∨ 101 = 100 ∨ 101 = 109) by omega) w_17) (to_c (pc := 138) rw_218_138 (x := (1 : Int32)) rfl rfl (b_cne_t (pc := 139) rw_218_139 (A := v16.toInt) (B := 1) rfl rfl (by omega) (to_an (pc := 147) rw_218_147 rfl (s_gR (pc := 148) rw_218_148 hG106 rfl (v := 101) rfl (to_in (pc := 151) rw_218_151 rfl (s_ialk (pc := 152) rw_218_152 hG106 rfl (n := 40) rfl rfl (A := x2.toInt) rfl (by omega) (by omega) (v := v16) (F_n F105 (show ¬ (101 = 77 ∧ (x2.toInt).toNat = 42 ∨ 101 = 99 ∨ 101 = 100 ∨ 101 = 109) by omega) w_17) (to_c (pc := 153) rw_218_153 (x := (2 : Int32)) rfl rfl (b_cge_f (pc := 154) rw_218_154 (A := v16.toInt) (B := 2) rfl rfl (by omega) ?_)))))))))))
            refine s_inc (pc := 157) rw_218_157 (ls2 := fun v => [.ref 77, .int x1, .int v]) rfl rfl (fun _ => rfl) (A := x2.toInt) (B := 1) rfl rfl (by omega) (fun v114 e115 => to_go (pc := 160) rw_218_160 ?_)
            have c_116 : M108.2.1 77 44 = (N.2.1 77 44) := (F_n F105 (show ¬ (77 = 77 ∧ 44 = 42 ∨ 77 = 99 ∨ 77 = 100 ∨ 77 = 109) by decide) c_18)
            have t_117 : (M108.2.1 77 44).toInt = (N.2.1 77 44).toInt := congrArg Int32.toInt c_116
            have s_118 : LSm M108 (x1.toInt).toNat = LSm N (x1.toInt).toNat := LSm_f _ (fun i z => (F_n F105 (show ¬ (111 = 77 ∧ i = 42 ∨ 111 = 99 ∨ 111 = 100 ∨ 111 = 109) by omega) (W_n W12 (by omega) rfl)))
            have j_119 := (AB_f (tg_279 F105) j_21)
            have c_120 : M108.2.1 77 43 = v10 := (F_n F105 (show ¬ (77 = 77 ∧ 43 = 42 ∨ 77 = 99 ∨ 77 = 100 ∨ 77 = 109) by decide) (W_e W12))
            have t_121 : (M108.2.1 77 43).toInt = v10.toInt := congrArg Int32.toInt c_120
            exact ih M108 x1 v114 hG106 F109 (by omega) (by omega) (by omega) (by omega) (by omega) (by rw [show v114.toInt = x2.toInt + 1 by omega]; exact (DK_f (fun r i z => (F_n F105 (show ¬ (r = 77 ∧ i = 42 ∨ r = 99 ∨ r = 100 ∨ r = 109) by omega) (W_n W12 (by omega) rfl))) (DK_next g6 (Or.inl (by omega))))) (fun i z => by rw [(F_n F105 (show ¬ (111 = 77 ∧ i = 42 ∨ 111 = 99 ∨ 111 = 100 ∨ 111 = 109) by omega) (W_n W12 (by omega) rfl))]; exact g7 i z) j_119 p_107 (by omega)
        · refine to_c (pc := 106) rw_218_106 (x := (1 : Int32)) rfl rfl (to_r0 (pc := 107) rw_218_107 ?_)
          have k_122 : (1 : Int32).toInt = 1 := rfl
          exact h (1 : Int32) N hG F0 g9
      · refine to_c (pc := 94) rw_218_94 (x := (0 : Int32)) rfl rfl (to_r0 (pc := 95) rw_218_95 ?_)
        have k_123 : (0 : Int32).toInt = 0 := rfl
        exact h (0 : Int32) N hG F0 g9
    · refine to_in (pc := 26) rw_218_26 rfl (to_an (pc := 27) rw_218_27 rfl (s_gR (pc := 28) rw_218_28 hG rfl (v := 105) rfl (to_an (pc := 31) rw_218_31 rfl (s_gR (pc := 32) rw_218_32 hG rfl (v := 110) rfl (to_in (pc := 35) rw_218_35 rfl (to_c (pc := 36) rw_218_36 (x := (1 : Int32)) rfl rfl (s_sub (pc := 37) rw_218_37 (A := x1.toInt) (B := 1) rfl rfl (by omega) (fun v124 e125 => s_ial (pc := 38) rw_218_38 hG rfl (n := 5) rfl rfl (A := v124.toInt) rfl (by omega) (by omega) (lo := 0) (hi := 39) rfl rfl (fun v126 w_127 _ _ => ?_)))))))))
      have s_128 : DK N x2.toInt ((v124.toInt).toNat + 1) := by rw [show (v124.toInt).toNat + 1 = (x1.toInt).toNat by omega]; exact g6
      have s_129 := DK_t s_128
      rw [w_127] at s_129
      refine s_ial (pc := 39) rw_218_39 hG rfl (n := 40) rfl rfl (A := v126.toInt) rfl (by omega) (by omega) (lo := 0) (hi := 40) rfl rfl (fun v130 w_131 _ _ => ?_)
      rw [w_131] at s_129
      refine b_cne (pc := 40) rw_218_40 (A := x2.toInt) (B := v130.toInt) rfl rfl (fun h132 => ?_) (fun h132 => ?_)
      · refine to_in (pc := 86) rw_218_86 rfl (to_an (pc := 87) rw_218_87 rfl (tt_gI (pc := 88) rw_218_88 (g_o hG rfl) (v := (N.2.1 77 44)) rfl (b_cne (pc := 91) rw_218_91 (A := x2.toInt) (B := (N.2.1 77 44).toInt) rfl rfl (fun h133 => ?_) (fun h133 => ?_))))
        · refine to_an (pc := 96) rw_218_96 rfl (tt_gI (pc := 97) rw_218_97 (g_o hG rfl) (v := (N.2.1 77 43)) rfl (to_c (pc := 100) rw_218_100 (x := (3000 : Int32)) rfl rfl (b_cne (pc := 103) rw_218_103 (A := (N.2.1 77 43).toInt) (B := 3000) rfl rfl (fun h134 => ?_) (fun h134 => ?_))))
          · refine to_an (pc := 108) rw_218_108 rfl (to_dupr (pc := 109) rw_218_109 (tt_gI (pc := 110) rw_218_110 (g_o hG rfl) (v := (N.2.1 77 43)) rfl (to_c (pc := 113) rw_218_113 (x := (1 : Int32)) rfl rfl (s_add (pc := 114) rw_218_114 (A := (N.2.1 77 43).toInt) (B := 1) rfl rfl (by omega) (fun v135 e136 => s_pI (pc := 115) rw_218_115 hG rfl (fun M138 W137 => ?_))))))
            have hG139 := g_w hG W137 (A := v135.toInt) rfl (lo := 0) (hi := 3000) rfl rfl (by omega) (by decide)
            have F140 := FR.w F0 W137 (show 77 = 77 ∧ (43 = 42 ∨ 43 = 43) ∨ 94 ≤ 77 ∧ 77 ≤ 98 ∨ 77 = 99 ∨ 77 = 100 ∨ 77 = 109 ∨ 77 = 110 ∨ 77 = 111 by decide)
            refine to_an (pc := 118) rw_218_118 rfl (s_gR (pc := 119) rw_218_119 hG139 rfl (v := 101) rfl (to_in (pc := 122) rw_218_122 rfl (s_ial (pc := 123) rw_218_123 hG139 rfl (n := 40) rfl rfl (A := x2.toInt) rfl (by omega) (by omega) (lo := 0) (hi := 2) rfl rfl (fun v141 w_142 _ _ => ?_))))
            have c_143 : M138.2.1 77 44 = (N.2.1 77 44) := (W_n W137 (by decide) rfl)
            have t_144 : (M138.2.1 77 44).toInt = (N.2.1 77 44).toInt := congrArg Int32.toInt c_143
            have j_146 := (AB_f (fun a i z => W_n W137 (by /-r77,43-/ omega) rfl) g8)
            have s_145 := AB_u (A := x2.toInt) j_146 (by omega) (by omega) (by omega)
            have t_147 := congrArg Int32.toInt w_142
            have t_148 : (M138.2.1 101 (x2.toInt).toNat).toInt = (N.2.1 101 (x2.toInt).toNat).toInt := congrArg Int32.toInt (W_n W137 (by omega) rfl)
            have t_149 : (M138.2.1 102 (x2.toInt).toNat).toInt = (N.2.1 102 (x2.toInt).toNat).toInt := congrArg Int32.toInt (W_n W137 (by omega) rfl)
            have t_150 : (M138.2.1 103 (x2.toInt).toNat).toInt = (N.2.1 103 (x2.toInt).toNat).toInt := congrArg Int32.toInt (W_n W137 (by omega) rfl)
            have t_151 : (M138.2.1 104 (x2.toInt).toNat).toInt = (N.2.1 104 (x2.toInt).toNat).toInt := congrArg Int32.toInt (W_n W137 (by omega) rfl)
            refine b_ine (pc := 124) rw_218_124 (A := v141.toInt) rfl (fun h152 => ?_) (fun h152 => ?_)
            · refine to_an (pc := 132) rw_218_132 rfl (s_gR (pc := 133) rw_218_133 hG139 rfl (v := 101) rfl (to_in (pc := 136) rw_218_136 rfl (s_ialk (pc := 137) rw_218_137 hG139 rfl (n := 40) rfl rfl (A := x2.toInt) rfl (by omega) (by omega) (v := v141) w_142 (to_c (pc := 138) rw_218_138 (x := (1 : Int32)) rfl rfl (b_cne (pc := 139) rw_218_139 (A := v141.toInt) (B := 1) rfl rfl (fun h155 => ?_) (fun h155 => ?_))))))
              · refine to_an (pc := 147) rw_218_147 rfl (s_gR (pc := 148) rw_218_148 hG139 rfl (v := 101) rfl (to_in (pc := 151) rw_218_151 rfl (s_ialk (pc := 152) rw_218_152 hG139 rfl (n := 40) rfl rfl (A := x2.toInt) rfl (by omega) (by omega) (v := v141) w_142 (to_c (pc := 153) rw_218_153 (x := (2 : Int32)) rfl rfl (b_cge_t (pc := 154) rw_218_154 (A := v141.toInt) (B := 2) rfl rfl (by omega) (to_an (pc := 163) rw_218_163 rfl (s_gR (pc := 164) rw_218_164 hG139 rfl (v := 102) rfl (to_in (pc := 167) rw_218_167 rfl (s_ial (pc := 168) rw_218_168 hG139 rfl (n := 40) rfl rfl (A := x2.toInt) rfl (by omega) (by omega) (lo := -1) (hi := 99) rfl rfl (fun v158 w_159 _ _ => ?_))))))))))
                have t_160 := congrArg Int32.toInt w_159
                have s_161 := DK_le g6 (by omega) (by omega) (by have z : N.2.1 101 (x2.toInt).toNat = v141 := (((W_n W137 (by omega) rfl)).symm.trans w_142); rw [z]; omega) (Or.inr (by rw [show (x1.toInt).toNat - 1 = (v124.toInt).toNat by omega, w_127, w_131]; omega))
                refine b_ine (pc := 169) rw_218_169 (A := v158.toInt) rfl (fun h162 => ?_) (fun h162 => ?_)
                · refine to_an (pc := 182) rw_218_182 rfl (s_gR (pc := 183) rw_218_183 hG139 rfl (v := 110) rfl (to_in (pc := 186) rw_218_186 rfl (to_in (pc := 187) rw_218_187 rfl (s_ias (pc := 188) rw_218_188 hG139 rfl (n := 5) rfl (A := x1.toInt) rfl (by omega) (by omega) (fun M164 W163 => ?_)))))
                  have hG165 := g_w hG139 W163 (A := x2.toInt) rfl (lo := 0) (hi := 39) rfl rfl (by omega) (by decide)
                  have F166 := FR.w F140 W163 (show 110 = 77 ∧ ((x1.toInt).toNat = 42 ∨ (x1.toInt).toNat = 43) ∨ 94 ≤ 110 ∧ 110 ≤ 98 ∨ 110 = 99 ∨ 110 = 100 ∨ 110 = 109 ∨ 110 = 110 ∨ 110 = 111 by omega)
                  refine to_an (pc := 189) rw_218_189 rfl (s_gR (pc := 190) rw_218_190 hG165 rfl (v := 111) rfl (to_in (pc := 193) rw_218_193 rfl (to_an (pc := 194) rw_218_194 rfl (s_gR (pc := 195) rw_218_195 hG165 rfl (v := 102) rfl (to_in (pc := 198) rw_218_198 rfl (s_ialk (pc := 199) rw_218_199 hG165 rfl (n := 40) rfl rfl (A := x2.toInt) rfl (by omega) (by omega) (v := v158) (W_n W163 (by omega) w_159) (s_ias (pc := 200) rw_218_200 hG165 rfl (n := 5) rfl (A := x1.toInt) rfl (by omega) (by omega) (fun M170 W169 => ?_))))))))
                  have hG171 := g_w hG165 W169 (A := v158.toInt) rfl (lo := 0) (hi := 99) rfl rfl (by omega) (by decide)
                  have F172 := FR.w F166 W169 (show 111 = 77 ∧ ((x1.toInt).toNat = 42 ∨ (x1.toInt).toNat = 43) ∨ 94 ≤ 111 ∧ 111 ≤ 98 ∨ 111 = 99 ∨ 111 = 100 ∨ 111 = 109 ∨ 111 = 110 ∨ 111 = 111 by omega)
                  refine s_inc (pc := 201) rw_218_201 (ls2 := fun v => [.ref 77, .int v, .int x2]) rfl rfl (fun _ => rfl) (A := x1.toInt) (B := 1) rfl rfl (by omega) (fun v173 e174 => s_inc (pc := 204) rw_218_204 (ls2 := fun v => [.ref 77, .int v173, .int v]) rfl rfl (fun _ => rfl) (A := x2.toInt) (B := 1) rfl rfl (by omega) (fun v175 e176 => to_go (pc := 207) rw_218_207 ?_))
                  have c_177 : M170.2.1 77 44 = (N.2.1 77 44) := (W_n W169 (fun z => absurd z.1 (by decide)) (W_n W163 (fun z => absurd z.1 (by decide)) c_143))
                  have t_178 : (M170.2.1 77 44).toInt = (N.2.1 77 44).toInt := congrArg Int32.toInt c_177
                  have s_179 : LSm M170 (v173.toInt).toNat = LSm M170 ((x1.toInt).toNat + 1) := by rw [show (v173.toInt).toNat = (x1.toInt).toNat + 1 by omega]
                  have s_180 := LSm_s (M := M170) (x1.toInt).toNat
                  have s_181 : LSm M170 (x1.toInt).toNat = LSm N (x1.toInt).toNat := LSm_f _ (fun i z => (W_n W169 (by omega) (W_n W163 (by omega) (W_n W137 (by omega) rfl))))
                  have s_182 : (M170.2.1 111 (x1.toInt).toNat).toInt = v158.toInt := by rw [show (x1.toInt).toNat = (x1.toInt).toNat by omega]; exact congrArg Int32.toInt (W_e W169)
                  have j_183 := (AB_f (fun a i z => W_n W169 (by /-r111-/ omega) rfl) (AB_f (fun a i z => W_n W163 (by /-r110-/ omega) rfl) j_146))
                  have j_184 := (PS_f (fun a i z => W_n W169 (tg_298 a i _ z) rfl) (PS_f (fun a i z => W_n W163 (tg_299 a i _ z) rfl) (PS_f (fun a i z => W_n W137 (tg_300 a i z) rfl) g9)))
                  have c_185 : M170.2.1 77 43 = v135 := (W_n W169 (fun z => absurd z.1 (by decide)) (W_n W163 (fun z => absurd z.1 (by decide)) (W_e W137)))
                  have t_186 : (M170.2.1 77 43).toInt = v135.toInt := congrArg Int32.toInt c_185
                  exact ih M170 v173 v175 hG171 F172 (by omega) (by omega) (by omega) (by omega) (by omega) (by rw [show (v173.toInt).toNat = (x1.toInt).toNat + 1 by omega, show v175.toInt = x2.toInt + 1 by omega]; exact DK_push g6 (by omega) (by omega) (by have z : N.2.1 101 (x2.toInt).toNat = v141 := (((W_n W137 (by omega) rfl)).symm.trans w_142); rw [z]; omega) (Or.inr (by rw [show (x1.toInt).toNat - 1 = (v124.toInt).toNat by omega, w_127, w_131]; omega)) (fun r i z => (W_n W169 (by omega) (W_n W163 (by omega) (W_n W137 (by omega) rfl)))) (by rw [(W_n W169 (by omega) (W_e W163))] <;> omega)) (fun i z => by
                      by_cases ei : i = (x1.toInt).toNat
                      · rw [ei]; omega
                      · rw [(W_n W169 (by omega) (W_n W163 (by omega) (W_n W137 (by omega) rfl)))]; exact g7 i (by omega)) j_183 j_184 (by omega)
                · refine to_an (pc := 172) rw_218_172 rfl (s_gR (pc := 173) rw_218_173 hG139 rfl (v := 105) rfl (to_in (pc := 176) rw_218_176 rfl (s_ial (pc := 177) rw_218_177 hG139 rfl (n := 40) rfl rfl (A := x2.toInt) rfl (by omega) (by omega) (lo := 0) (hi := 40) rfl rfl (fun v187 w_188 _ _ => ?_))))
                  have t_189 := congrArg Int32.toInt w_188
                  have s_190 := DK_skip g6 (by omega) (by omega) (by have z : N.2.1 101 (x2.toInt).toNat = v141 := (((W_n W137 (by omega) rfl)).symm.trans w_142); rw [z]; omega) (Or.inr (by rw [show (x1.toInt).toNat - 1 = (v124.toInt).toNat by omega, w_127, w_131]; omega))
                  have s_191 := s_190.2
                  rw [(((W_n W137 (by omega) rfl)).symm.trans w_188)] at s_191
                  refine to_isn (pc := 178) rw_218_178 (ls2 := [.ref 77, .int x1, .int v187]) rfl rfl (to_go (pc := 179) rw_218_179 ?_)
                  have s_193 : LSm M138 (x1.toInt).toNat = LSm N (x1.toInt).toNat := LSm_f _ (fun i z => (W_n W137 (by omega) rfl))
                  have j_194 := (PS_f (fun a i z => W_n W137 (tg_300 a i z) rfl) g9)
                  have c_195 : M138.2.1 77 43 = v135 := (W_e W137)
                  have t_196 : (M138.2.1 77 43).toInt = v135.toInt := congrArg Int32.toInt c_195
                  exact ih M138 x1 v187 hG139 F140 (by omega) (by omega) (by omega) (by omega) (by omega) (DK_f (fun r i z => (W_n W137 (by omega) rfl)) (by have z := (s_190).1; rw [(((W_n W137 (by omega) rfl)).symm.trans w_188)] at z; exact z)) (fun i z => by rw [(W_n W137 (by omega) rfl)]; exact g7 i z) j_146 j_194 (by omega)
              · refine to_an (pc := 142) rw_218_142 rfl (to_in (pc := 143) rw_218_143 rfl (s_v (pc := 144) rw_218_144 (dp0 hd (by decide)) (ls0 := [.ref 77, .int x2, .null, .null]) rfl (Nat.le_of_ble_eq_true rfl) (Nat.le_of_ble_eq_true rfl) rfl (to_rc rfl rfl rfl (g_o hG139 rfl)) rfl ?_))
                have s_197 := AB_u (A := x2.toInt) j_146 (by omega) (by omega) (by omega)
                have t_198 : (M138.2.1 101 (x2.toInt).toNat).toInt = (N.2.1 101 (x2.toInt).toNat).toInt := congrArg Int32.toInt (W_n W137 (by omega) rfl)
                have t_199 : (M138.2.1 102 (x2.toInt).toNat).toInt = (N.2.1 102 (x2.toInt).toNat).toInt := congrArg Int32.toInt (W_n W137 (by omega) rfl)
                have t_200 : (M138.2.1 103 (x2.toInt).toNat).toInt = (N.2.1 103 (x2.toInt).toNat).toInt := congrArg Int32.toInt (W_n W137 (by omega) rfl)
                have t_201 : (M138.2.1 104 (x2.toInt).toNat).toInt = (N.2.1 104 (x2.toInt).toNat).toInt := congrArg Int32.toInt (W_n W137 (by omega) rfl)
                have s_202 := g_b hG139 (a := 103) (i := (x2.toInt).toNat) (lo := -1) (hi := 5) rfl rfl
                have j_203 := (PS_f (fun a i z => W_n W137 (tg_300 a i z) rfl) g9)
                refine C_217 hX (dp1 hd (by decide)) hG139 (by omega) (by omega) rfl rfl (by omega) (by omega) (by omega) (by omega) (by omega) j_203 (a := x2) (o := (M138.2.1 102 (x2.toInt).toNat)) (t := (M138.2.1 103 (x2.toInt).toNat)) (fun M207 hG205 F204 p_206 => ?_)
                have F208 := FR.c F140 F204 tg_292
                refine to_an (pc := 147) rw_218_147 rfl (s_gR (pc := 148) rw_218_148 hG205 rfl (v := 101) rfl (to_in (pc := 151) rw_218_151 rfl (s_ialk (pc := 152) rw_218_152 hG205 rfl (n := 40) rfl rfl (A := x2.toInt) rfl (by omega) (by omega) (v := v141) (F_n F204 (show ¬ (101 = 99 ∨ 101 = 100) by decide) w_142) (to_c (pc := 153) rw_218_153 (x := (2 : Int32)) rfl rfl (b_cge_f (pc := 154) rw_218_154 (A := v141.toInt) (B := 2) rfl rfl (by omega) (s_inc (pc := 157) rw_218_157 (ls2 := fun v => [.ref 77, .int x1, .int v]) rfl rfl (fun _ => rfl) (A := x2.toInt) (B := 1) rfl rfl (by omega) (fun v211 e212 => to_go (pc := 160) rw_218_160 ?_)))))))
                have c_213 : M207.2.1 77 44 = (N.2.1 77 44) := (F_n F204 (show ¬ (77 = 99 ∨ 77 = 100) by decide) c_143)
                have t_214 : (M207.2.1 77 44).toInt = (N.2.1 77 44).toInt := congrArg Int32.toInt c_213
                have s_215 : LSm M207 (x1.toInt).toNat = LSm N (x1.toInt).toNat := LSm_f _ (fun i z => (F_n F204 (show ¬ (111 = 99 ∨ 111 = 100) by decide) (W_n W137 (by omega) rfl)))
                have j_216 := (AB_f (tg_278 F204) j_146)
                have c_217 : M207.2.1 77 43 = v135 := (F_n F204 (show ¬ (77 = 99 ∨ 77 = 100) by decide) (W_e W137))
                have t_218 : (M207.2.1 77 43).toInt = v135.toInt := congrArg Int32.toInt c_217
                exact ih M207 x1 v211 hG205 F208 (by omega) (by omega) (by omega) (by omega) (by omega) (by rw [show v211.toInt = x2.toInt + 1 by omega]; exact (DK_f (fun r i z => (F_n F204 (show ¬ (r = 99 ∨ r = 100) by omega) (W_n W137 (by omega) rfl))) (DK_next g6 (Or.inr (by rw [show (x1.toInt).toNat - 1 = (v124.toInt).toNat by omega, w_127, w_131]; omega))))) (fun i z => by rw [(F_n F204 (show ¬ (111 = 99 ∨ 111 = 100) by decide) (W_n W137 (by omega) rfl))]; exact g7 i z) j_216 p_206 (by omega)
            · refine to_an (pc := 127) rw_218_127 rfl (to_in (pc := 128) rw_218_128 rfl (s_v (pc := 129) rw_218_129 (dp0 hd (by decide)) (ls0 := [.ref 77, .int x2, .null, .null, .null, .null, .null]) rfl (Nat.le_of_ble_eq_true rfl) (Nat.le_of_ble_eq_true rfl) rfl (to_rc rfl rfl rfl (g_o hG139 rfl)) rfl ?_))
              have s_219 := AB_u (A := x2.toInt) j_146 (by omega) (by omega) (by omega)
              have t_220 : (M138.2.1 101 (x2.toInt).toNat).toInt = (N.2.1 101 (x2.toInt).toNat).toInt := congrArg Int32.toInt (W_n W137 (by omega) rfl)
              have t_221 : (M138.2.1 102 (x2.toInt).toNat).toInt = (N.2.1 102 (x2.toInt).toNat).toInt := congrArg Int32.toInt (W_n W137 (by omega) rfl)
              have t_222 : (M138.2.1 103 (x2.toInt).toNat).toInt = (N.2.1 103 (x2.toInt).toNat).toInt := congrArg Int32.toInt (W_n W137 (by omega) rfl)
              have t_223 : (M138.2.1 104 (x2.toInt).toNat).toInt = (N.2.1 104 (x2.toInt).toNat).toInt := congrArg Int32.toInt (W_n W137 (by omega) rfl)
              have s_224 := g_b hG139 (a := 103) (i := (x2.toInt).toNat) (lo := -1) (hi := 5) rfl rfl
              have t_225 : (M138.2.1 102 (x2.toInt).toNat).toInt = (N.2.1 102 (x2.toInt).toNat).toInt := congrArg Int32.toInt (W_n W137 (by omega) rfl)
              have t_226 : (M138.2.1 102 (x2.toInt).toNat).toInt = (N.2.1 102 (x2.toInt).toNat).toInt := congrArg Int32.toInt (W_n W137 (by omega) rfl)
              have t_227 : (M138.2.1 103 (x2.toInt).toNat).toInt = (N.2.1 103 (x2.toInt).toNat).toInt := congrArg Int32.toInt (W_n W137 (by omega) rfl)
              have t_228 : (M138.2.1 104 (x2.toInt).toNat).toInt = (N.2.1 104 (x2.toInt).toNat).toInt := congrArg Int32.toInt (W_n W137 (by omega) rfl)
              have j_229 := (PS_f (fun a i z => W_n W137 (tg_300 a i z) rfl) g9)
              refine C_216 hX (dp1 hd (by decide)) hG139 (by omega) (by omega) (by omega) (by omega) (by omega) (by omega) j_229 (a := x2) (fun M233 hG231 F230 p_232 => ?_)
              have F234 := FR.c F140 F230 tg_293
              refine to_an (pc := 132) rw_218_132 rfl (s_gR (pc := 133) rw_218_133 hG231 rfl (v := 101) rfl (to_in (pc := 136) rw_218_136 rfl (s_ialk (pc := 137) rw_218_137 hG231 rfl (n := 40) rfl rfl (A := x2.toInt) rfl (by omega) (by omega) (v := v141) (F_n F230 (show ¬ (101 = 77 ∧ (x2.toInt).toNat = 42 ∨ 101 = 99 ∨ 101 = 100 ∨ 101 = 109) by omega) w_142) (to_c (pc := 138) rw_218_138 (x := (1 : Int32)) rfl rfl (b_cne_t (pc := 139) rw_218_139 (A := v141.toInt) (B := 1) rfl rfl (by omega) (to_an (pc := 147) rw_218_147 rfl (s_gR (pc := 148) rw_218_148 hG231 rfl (v := 101) rfl (to_in (pc := 151) rw_218_151 rfl (s_ialk (pc := 152) rw_218_152 hG231 rfl (n := 40) rfl rfl (A := x2.toInt) rfl (by omega) (by omega) (v := v141) (F_n F230 (show ¬ (101 = 77 ∧ (x2.toInt).toNat = 42 ∨ 101 = 99 ∨ 101 = 100 ∨ 101 = 109) by omega) w_142) (to_c (pc := 153) rw_218_153 (x := (2 : Int32)) rfl rfl (b_cge_f (pc := 154) rw_218_154 (A := v141.toInt) (B := 2) rfl rfl (by omega) ?_)))))))))))
              refine s_inc (pc := 157) rw_218_157 (ls2 := fun v => [.ref 77, .int x1, .int v]) rfl rfl (fun _ => rfl) (A := x2.toInt) (B := 1) rfl rfl (by omega) (fun v239 e240 => to_go (pc := 160) rw_218_160 ?_)
              have c_241 : M233.2.1 77 44 = (N.2.1 77 44) := (F_n F230 (show ¬ (77 = 77 ∧ 44 = 42 ∨ 77 = 99 ∨ 77 = 100 ∨ 77 = 109) by decide) c_143)
              have t_242 : (M233.2.1 77 44).toInt = (N.2.1 77 44).toInt := congrArg Int32.toInt c_241
              have s_243 : LSm M233 (x1.toInt).toNat = LSm N (x1.toInt).toNat := LSm_f _ (fun i z => (F_n F230 (show ¬ (111 = 77 ∧ i = 42 ∨ 111 = 99 ∨ 111 = 100 ∨ 111 = 109) by omega) (W_n W137 (by omega) rfl)))
              have j_244 := (AB_f (tg_279 F230) j_146)
              have c_245 : M233.2.1 77 43 = v135 := (F_n F230 (show ¬ (77 = 77 ∧ 43 = 42 ∨ 77 = 99 ∨ 77 = 100 ∨ 77 = 109) by decide) (W_e W137))
              have t_246 : (M233.2.1 77 43).toInt = v135.toInt := congrArg Int32.toInt c_245
              exact ih M233 x1 v239 hG231 F234 (by omega) (by omega) (by omega) (by omega) (by omega) (by rw [show v239.toInt = x2.toInt + 1 by omega]; exact (DK_f (fun r i z => (F_n F230 (show ¬ (r = 77 ∧ i = 42 ∨ r = 99 ∨ r = 100 ∨ r = 109) by omega) (W_n W137 (by omega) rfl))) (DK_next g6 (Or.inr (by rw [show (x1.toInt).toNat - 1 = (v124.toInt).toNat by omega, w_127, w_131]; omega))))) (fun i z => by rw [(F_n F230 (show ¬ (111 = 77 ∧ i = 42 ∨ 111 = 99 ∨ 111 = 100 ∨ 111 = 109) by omega) (W_n W137 (by omega) rfl))]; exact g7 i z) j_244 p_232 (by omega)
          · refine to_c (pc := 106) rw_218_106 (x := (1 : Int32)) rfl rfl (to_r0 (pc := 107) rw_218_107 ?_)
            have k_247 : (1 : Int32).toInt = 1 := rfl
            exact h (1 : Int32) N hG F0 g9
        · refine to_c (pc := 94) rw_218_94 (x := (0 : Int32)) rfl rfl (to_r0 (pc := 95) rw_218_95 ?_)
          have k_248 : (0 : Int32).toInt = 0 := rfl
          exact h (0 : Int32) N hG F0 g9
      · refine to_an (pc := 43) rw_218_43 rfl (s_gR (pc := 44) rw_218_44 hG rfl (v := 111) rfl (to_in (pc := 47) rw_218_47 rfl (to_c (pc := 48) rw_218_48 (x := (1 : Int32)) rfl rfl (s_subk (pc := 49) rw_218_49 (A := x1.toInt) (B := 1) rfl rfl (by omega) (v := v124) e125 (to_dup2 (pc := 50) rw_218_50 (s_ial (pc := 51) rw_218_51 hG rfl (n := 5) rfl rfl (A := v124.toInt) rfl (by omega) (by omega) (lo := 0) (hi := 99) rfl rfl (fun v251 w_252 _ _ => ?_)))))))
        have t_253 := congrArg Int32.toInt w_252
        have s_254 := g7 (v124.toInt).toNat (by omega)
        rw [w_252] at s_254
        refine to_c (pc := 52) rw_218_52 (x := (1 : Int32)) rfl rfl (s_sub (pc := 53) rw_218_53 (A := v251.toInt) (B := 1) rfl rfl (by omega) (fun v255 e256 => s_ias (pc := 54) rw_218_54 hG rfl (n := 5) rfl (A := v124.toInt) rfl (by omega) (by omega) (fun M258 W257 => ?_)))
        have hG259 := g_w hG W257 (A := v255.toInt) rfl (lo := 0) (hi := 99) rfl rfl (by omega) (by decide)
        have F260 := FR.w F0 W257 (show 111 = 77 ∧ ((v124.toInt).toNat = 42 ∨ (v124.toInt).toNat = 43) ∨ 94 ≤ 111 ∧ 111 ≤ 98 ∨ 111 = 99 ∨ 111 = 100 ∨ 111 = 109 ∨ 111 = 110 ∨ 111 = 111 by omega)
        refine to_an (pc := 55) rw_218_55 rfl (s_gR (pc := 56) rw_218_56 hG259 rfl (v := 111) rfl (to_in (pc := 59) rw_218_59 rfl (to_c (pc := 60) rw_218_60 (x := (1 : Int32)) rfl rfl (s_subk (pc := 61) rw_218_61 (A := x1.toInt) (B := 1) rfl rfl (by omega) (v := v124) e125 (s_ialk (pc := 62) rw_218_62 hG259 rfl (n := 5) rfl rfl (A := v124.toInt) rfl (by omega) (by omega) (v := v255) (W_e W257) (b_ile (pc := 63) rw_218_63 (A := v255.toInt) rfl (fun h265 => ?_) (fun h265 => ?_)))))))
        · refine s_inc (pc := 80) rw_218_80 (ls2 := fun v => [.ref 77, .int v, .int x2]) rfl rfl (fun _ => rfl) (A := x1.toInt) (B := -1) rfl rfl (by omega) (fun v266 e267 => to_go (pc := 83) rw_218_83 ?_)
          have c_268 : M258.2.1 77 44 = (N.2.1 77 44) := (W_n W257 (fun z => absurd z.1 (by decide)) rfl)
          have t_269 : (M258.2.1 77 44).toInt = (N.2.1 77 44).toInt := congrArg Int32.toInt c_268
          have s_270 : LSm N (x1.toInt).toNat = LSm N ((v124.toInt).toNat + 1) := by rw [show (x1.toInt).toNat = (v124.toInt).toNat + 1 by omega]
          have s_271 := LSm_s (M := N) (v124.toInt).toNat
          have s_272 : LSm M258 (v124.toInt).toNat = LSm N (v124.toInt).toNat := LSm_f _ (fun i z => (W_n W257 (by omega) rfl))
          have s_273 := g_b hG (a := 111) (i := (v124.toInt).toNat) (lo := 0) (hi := 99) rfl rfl
          have s_274 : LSm M258 (v266.toInt).toNat = LSm M258 (v124.toInt).toNat := by rw [show (v266.toInt).toNat = (v124.toInt).toNat by omega]
          have j_275 := (AB_f (fun a i z => W_n W257 (by /-r111-/ omega) rfl) g8)
          have j_276 := (PS_f (fun a i z => W_n W257 (tg_298 a i _ z) rfl) g9)
          have c_277 : M258.2.1 77 43 = (N.2.1 77 43) := (W_n W257 (fun z => absurd z.1 (by decide)) rfl)
          have t_278 : (M258.2.1 77 43).toInt = (N.2.1 77 43).toInt := congrArg Int32.toInt c_277
          exact ih M258 v266 x2 hG259 F260 (by omega) (by omega) (by omega) (by omega) (by omega) (by rw [show (v266.toInt).toNat = (v124.toInt).toNat by omega]; exact (DK_f (fun r i z => (W_n W257 (by omega) rfl)) (DK_pop s_128))) (fun i z => by rw [(W_n W257 (by omega) rfl)]; exact g7 i (by omega)) j_275 j_276 (by omega)
        · refine to_an (pc := 66) rw_218_66 rfl (s_gR (pc := 67) rw_218_67 hG259 rfl (v := 110) rfl (to_in (pc := 70) rw_218_70 rfl (to_c (pc := 71) rw_218_71 (x := (1 : Int32)) rfl rfl (s_subk (pc := 72) rw_218_72 (A := x1.toInt) (B := 1) rfl rfl (by omega) (v := v124) e125 (s_ialk (pc := 73) rw_218_73 hG259 rfl (n := 5) rfl rfl (A := v124.toInt) rfl (by omega) (by omega) (v := v126) (W_n W257 (by omega) w_127) (to_c (pc := 74) rw_218_74 (x := (1 : Int32)) rfl rfl (s_add (pc := 75) rw_218_75 (A := v126.toInt) (B := 1) rfl rfl (by omega) (fun v283 e284 => to_isn (pc := 76) rw_218_76 (ls2 := [.ref 77, .int x1, .int v283]) rfl rfl (to_go (pc := 77) rw_218_77 ?_)))))))))
          have c_285 : M258.2.1 77 44 = (N.2.1 77 44) := (W_n W257 (fun z => absurd z.1 (by decide)) rfl)
          have t_286 : (M258.2.1 77 44).toInt = (N.2.1 77 44).toInt := congrArg Int32.toInt c_285
          have s_287 : LSm N (x1.toInt).toNat = LSm N ((v124.toInt).toNat + 1) := by rw [show (x1.toInt).toNat = (v124.toInt).toNat + 1 by omega]
          have s_288 := LSm_s (M := N) (v124.toInt).toNat
          have s_289 : LSm M258 (v124.toInt).toNat = LSm N (v124.toInt).toNat := LSm_f _ (fun i z => (W_n W257 (by omega) rfl))
          have s_290 := g_b hG (a := 111) (i := (v124.toInt).toNat) (lo := 0) (hi := 99) rfl rfl
          have s_291 : LSm M258 (x1.toInt).toNat = LSm M258 ((v124.toInt).toNat + 1) := by rw [show (x1.toInt).toNat = (v124.toInt).toNat + 1 by omega]
          have s_292 := LSm_s (M := M258) (v124.toInt).toNat
          have s_293 : (M258.2.1 111 (v124.toInt).toNat).toInt = v255.toInt := by rw [show (v124.toInt).toNat = (v124.toInt).toNat by omega]; exact congrArg Int32.toInt (W_e W257)
          have j_294 := (AB_f (fun a i z => W_n W257 (by /-r111-/ omega) rfl) g8)
          have j_295 := (PS_f (fun a i z => W_n W257 (tg_298 a i _ z) rfl) g9)
          have c_296 : M258.2.1 77 43 = (N.2.1 77 43) := (W_n W257 (fun z => absurd z.1 (by decide)) rfl)
          have t_297 : (M258.2.1 77 43).toInt = (N.2.1 77 43).toInt := congrArg Int32.toInt c_296
          exact ih M258 x1 v283 hG259 F260 (by omega) (by omega) (by omega) (by omega) (by omega) (by rw [show (x1.toInt).toNat = (v124.toInt).toNat + 1 by omega]; exact (DK_f (fun r i z => (W_n W257 (by omega) rfl)) (DK_dec s_128 (by rw [w_127]; omega)))) (fun i z => by
              by_cases ei : i = (v124.toInt).toNat
              · rw [ei]; omega
              · rw [(W_n W257 (by omega) rfl)]; exact g7 i (by omega)) j_294 j_295 (by omega)
set_option maxRecDepth 4000 in
set_option maxHeartbeats 0 in
theorem C_218 {X : mm_X} {d : Nat} {M : mm_M} {Q : Option Value → mm_M → Prop} (hX : g_X X) (hd : 3 ≤ d) (hG : g_G M) (q1 : NJ M) (q2 : PS M) (q3 : AB M) (q4 : ST M) (q5 : (M.2.1 77 52).toInt ≤ 0) (h : ∀ (r : Int32) (M1 : mm_M), g_G M1 → FR md_do M M1 → PS M1 → Q (some (.int r)) M1) : mm_T X d 217 0 [.ref 77, .null, .null] [] M Q := by
  have F0 : FR md_do M M := FR.rf
  have b_298 := g_b hG (a := 77) (i := 52) (lo := 0) (hi := 5) rfl rfl
  refine to_an (pc := 0) rw_218_0 rfl (to_an (pc := 1) rw_218_1 rfl ?_)
  have b_299 := g_b hG (a := 77) (i := 29) (lo := 0) (hi := 150) rfl rfl
  refine tt_gI (pc := 2) rw_218_2 (g_o hG rfl) (v := (M.2.1 77 29)) rfl (s_v (pc := 5) rw_218_5 (dp0 hd (by decide)) (ls0 := [.ref 77, .int (M.2.1 77 29), .null, .null]) rfl (Nat.le_of_ble_eq_true rfl) (Nat.le_of_ble_eq_true rfl) rfl (to_rc rfl rfl rfl (g_o hG rfl)) rfl (C_189 hX (dp1 hd (by decide)) hG (by omega) (by omega) (by omega) q1 (n := (M.2.1 77 29)) (fun M302 hG301 F300 => ?_)))
  have F303 := FR.c F0 F300 tg_294
  refine to_an (pc := 8) rw_218_8 rfl (to_c (pc := 9) rw_218_9 (x := (0 : Int32)) rfl rfl (s_pI (pc := 10) rw_218_10 hG301 rfl (fun M305 W304 => ?_)))
  have hG306 := g_wf hG301 W304 rfl rfl (by decide)
  have F307 := FR.w F303 W304 (show 77 = 77 ∧ (42 = 42 ∨ 42 = 43) ∨ 94 ≤ 77 ∧ 77 ≤ 98 ∨ 77 = 99 ∨ 77 = 100 ∨ 77 = 109 ∨ 77 = 110 ∨ 77 = 111 by decide)
  refine to_an (pc := 13) rw_218_13 rfl (to_c (pc := 14) rw_218_14 (x := (0 : Int32)) rfl rfl (s_pI (pc := 15) rw_218_15 hG306 rfl (fun M309 W308 => ?_)))
  have hG310 := g_w hG306 W308 (A := 0) rfl (lo := 0) (hi := 3000) rfl rfl (by omega) (by decide)
  have F311 := FR.w F307 W308 (show 77 = 77 ∧ (43 = 42 ∨ 43 = 43) ∨ 94 ≤ 77 ∧ 77 ≤ 98 ∨ 77 = 99 ∨ 77 = 100 ∨ 77 = 109 ∨ 77 = 110 ∨ 77 = 111 by decide)
  refine to_c (pc := 18) rw_218_18 (x := (0 : Int32)) rfl rfl (to_isn (pc := 19) rw_218_19 (ls2 := [.ref 77, .int (0 : Int32), .null]) rfl rfl (to_c (pc := 20) rw_218_20 (x := (0 : Int32)) rfl rfl (to_isn (pc := 21) rw_218_21 (ls2 := [.ref 77, .int (0 : Int32), .int (0 : Int32)]) rfl rfl ?_)))
  have k_312 : (0 : Int32).toInt = 0 := rfl
  have c_313 : M309.2.1 77 44 = (M.2.1 77 44) := (W_n W308 (by decide) (W_n W304 (by decide) (F_n F300 (show ¬ (94 ≤ 77 ∧ 77 ≤ 98) by decide) rfl)))
  have b_314 := g_b hG (a := 77) (i := 44) (lo := 0) (hi := 40) rfl rfl
  have t_315 : (M309.2.1 77 44).toInt = (M.2.1 77 44).toInt := congrArg Int32.toInt c_313
  have c_316 : M309.2.1 77 52 = (M.2.1 77 52) := (W_n W308 (by decide) (W_n W304 (by decide) (F_n F300 (show ¬ (94 ≤ 77 ∧ 77 ≤ 98) by decide) rfl)))
  have t_317 : (M309.2.1 77 52).toInt = (M.2.1 77 52).toInt := congrArg Int32.toInt c_316
  have j_318 := (ST_f (fun a i z => W_n W308 (by /-r77,43-/ omega) rfl) (ST_f (fun a i z => W_n W304 (by /-r77,42-/ omega) rfl) (ST_f (tg_280 F300) q4)))
  have s_319 : LSm M309 ((0 : Int32).toInt).toNat = 0 := rfl
  have j_320 := (AB_f (fun a i z => W_n W308 (by /-r77,43-/ omega) rfl) (AB_f (fun a i z => W_n W304 (by /-r77,42-/ omega) rfl) (AB_f (tg_281 F300) q3)))
  have j_321 := (PS_f (fun a i z => W_n W308 (tg_300 a i z) rfl) (PS_f (fun a i z => W_n W304 (tg_301 a i z) rfl) (PS_f (tg_282 F300) q2)))
  have c_322 : M309.2.1 77 43 = (0 : Int32) := (W_e W308)
  have t_323 : (M309.2.1 77 43).toInt = (0 : Int32).toInt := congrArg Int32.toInt c_322
  exact (T_218_0 hX hd q1 q2 q3 q4 q5 h (((3000 - (M309.2.1 77 43).toInt) * 1000 + LSm M309 ((0 : Int32).toInt).toNat).toNat + 1)) M309 (0 : Int32) (0 : Int32) hG310 F311 (by omega) (by omega) (by omega) (by omega) (by omega) (DK_0 j_318 (by omega)) (fun i z => absurd z (by omega)) j_320 j_321 (by omega)
set_option maxRecDepth 4000 in
set_option maxHeartbeats 0 in
theorem T_219_0 {X : mm_X} {d : Nat} {M : mm_M} {Q : Option Value → mm_M → Prop} {n : Int32} (hX : g_X X) (hd : 5 ≤ d) (q1 : (M.2.1 77 7).toInt ≤ (M.2.1 77 6).toInt) (q2 : FA M) (q3 : WC M) (q4 : NJ M) (q5 : PS M) (q6 : KQ M) (h : ∀ (r : Int32) (M1 : mm_M), g_G M1 → FR md_wk M M1 → ((M1.2.1 77 7).toInt ≤ (M1.2.1 77 6).toInt) → FA M1 → WC M1 → NJ M1 → PS M1 → KQ M1 → (n.toInt < 0 ∨ (M.2.1 77 1).toInt < n.toInt → (M1.2.1 77 1).toInt = (M.2.1 77 1).toInt) → (0 ≤ n.toInt ∧ n.toInt ≤ (M.2.1 77 1).toInt → (M1.2.1 77 1).toInt = 0) → Q (some (.int r)) M1) : ∀ nn9 : Nat, (∀ (N : mm_M) (u1 : Value), g_G N → FR md_wk M N → ((N.2.1 77 7).toInt ≤ (N.2.1 77 6).toInt) → (FA N) → (WC N) → (NJ N) → (PS N) → (KQ N) → (AB N) → (ST N) → ((N.2.1 77 1).toInt = 0) → (0 ≤ n.toInt) → (n.toInt ≤ (M.2.1 77 1).toInt) → 6 * (500 - (N.2.1 77 7).toInt) + (N.2.1 77 8).toInt < (nn9 : Int) → mm_T X d 218 26 [.ref 77, u1] [] N Q) := by
  intro nn9
  induction nn9 with
  | zero =>
    intro N u1 hG F0 g1 g2 g3 g4 g5 g6 g7 g8 g9 g10 g11 hm
    have b_1 := g_b hG (a := 77) (i := 7) (lo := 0) (hi := 500) rfl rfl
    have b_2 := g_b hG (a := 77) (i := 8) (lo := 0) (hi := 5) rfl rfl
    have b_3 := g_b hG (a := 77) (i := 6) (lo := 0) (hi := 500) rfl rfl
    have b_4 := g_b hG (a := 77) (i := 1) (lo := 0) (hi := 500) rfl rfl
    exfalso; omega
  | succ nn9 ih =>
    intro N u1 hG F0 g1 g2 g3 g4 g5 g6 g7 g8 g9 g10 g11 hm
    have b_5 := g_b hG (a := 77) (i := 7) (lo := 0) (hi := 500) rfl rfl
    have b_6 := g_b hG (a := 77) (i := 8) (lo := 0) (hi := 5) rfl rfl
    have b_7 := g_b hG (a := 77) (i := 6) (lo := 0) (hi := 500) rfl rfl
    have b_8 := g_b hG (a := 77) (i := 1) (lo := 0) (hi := 500) rfl rfl
    refine to_an (pc := 26) rw_219_26 rfl (tt_gI (pc := 27) rw_219_27 (g_o hG rfl) (v := (N.2.1 77 8)) rfl (b_ine (pc := 30) rw_219_30 (A := (N.2.1 77 8).toInt) rfl (fun h9 => ?_) (fun h9 => ?_)))
    · refine to_an (pc := 40) rw_219_40 rfl (s_v (pc := 41) rw_219_41 (dp0 hd (by decide)) (ls0 := [.ref 77, .null]) rfl (Nat.le_of_ble_eq_true rfl) (Nat.le_of_ble_eq_true rfl) rfl (to_rc rfl rfl rfl (g_o hG rfl)) rfl (C_215 hX (dp1 hd (by decide)) hG (by omega) g7 g8  (fun r10 M21 hG12 F11 p_13 p_14 p_15 p_16 p_17 p_18 p_19 p_20 => ?_)))
      have F22 := FR.c F0 F11 tg_295
      have b_23 := g_b hG12 (a := 77) (i := 7) (lo := 0) (hi := 500) rfl rfl
      have c_24 : M21.2.1 77 6 = (N.2.1 77 6) := (F_n F11 (show ¬ (77 = 77 ∧ (6 = 4 ∨ 6 = 5 ∨ 7 ≤ 6 ∧ 6 ≤ 10) ∨ 77 = 77 ∧ (6 = 44 ∨ 6 = 52) ∨ 101 ≤ 77 ∧ 77 ≤ 108) by decide) rfl)
      have t_25 : (M21.2.1 77 6).toInt = (N.2.1 77 6).toInt := congrArg Int32.toInt c_24
      have b_26 := g_b hG12 (a := 77) (i := 8) (lo := 0) (hi := 5) rfl rfl
      refine b_ine (pc := 44) rw_219_44 (A := r10.toInt) rfl (fun h27 => ?_) (fun h27 => ?_)
      · have j_28 := (FA_f (tg_283 F11) g2)
        have j_29 := (WC_f (tg_284 F11) g3)
        have j_30 := (NJ_f (tg_285 F11) g4)
        have j_31 := (PS_f (tg_286 F11) g5)
        have j_32 := (KQ_f (tg_287 F11) g6)
        have c_33 : M21.2.1 77 1 = (N.2.1 77 1) := (F_n F11 (show ¬ (77 = 77 ∧ (1 = 4 ∨ 1 = 5 ∨ 7 ≤ 1 ∧ 1 ≤ 10) ∨ 77 = 77 ∧ (1 = 44 ∨ 1 = 52) ∨ 101 ≤ 77 ∧ 77 ≤ 108) by decide) rfl)
        have t_34 : (M21.2.1 77 1).toInt = (N.2.1 77 1).toInt := congrArg Int32.toInt c_33
        exact ih M21 (u1) hG12 F22 (by omega) j_28 j_29 j_30 j_31 j_32 (p_19 (by omega)) (p_20 (by omega)) (by omega) (by omega) (by omega) (by omega)
      · refine to_c (pc := 47) rw_219_47 (x := (-1 : Int32)) rfl rfl (to_r0 (pc := 48) rw_219_48 ?_)
        have k_35 : (-1 : Int32).toInt = -1 := rfl
        have j_36 := (FA_f (tg_283 F11) g2)
        have j_37 := (WC_f (tg_284 F11) g3)
        have j_38 := (NJ_f (tg_285 F11) g4)
        have j_39 := (PS_f (tg_286 F11) g5)
        have j_40 := (KQ_f (tg_287 F11) g6)
        have c_41 : M21.2.1 77 1 = (N.2.1 77 1) := (F_n F11 (show ¬ (77 = 77 ∧ (1 = 4 ∨ 1 = 5 ∨ 7 ≤ 1 ∧ 1 ≤ 10) ∨ 77 = 77 ∧ (1 = 44 ∨ 1 = 52) ∨ 101 ≤ 77 ∧ 77 ≤ 108) by decide) rfl)
        have t_42 : (M21.2.1 77 1).toInt = (N.2.1 77 1).toInt := congrArg Int32.toInt c_41
        exact h (-1 : Int32) M21 hG12 F22 (by omega) j_36 j_37 j_38 j_39 j_40 (by omega) (by omega)
    · refine to_an (pc := 33) rw_219_33 rfl ?_
      have b_43 := g_b hG (a := 77) (i := 52) (lo := 0) (hi := 5) rfl rfl
      refine tt_gI (pc := 34) rw_219_34 (g_o hG rfl) (v := (N.2.1 77 52)) rfl (b_ile (pc := 37) rw_219_37 (A := (N.2.1 77 52).toInt) rfl (fun h44 => ?_) (fun h44 => ?_))
      · refine to_an (pc := 49) rw_219_49 rfl (s_v (pc := 50) rw_219_50 (dp0 hd (by decide)) (ls0 := [.ref 77, .null, .null]) rfl (Nat.le_of_ble_eq_true rfl) (Nat.le_of_ble_eq_true rfl) rfl (to_rc rfl rfl rfl (g_o hG rfl)) rfl (C_218 hX (dp1 hd (by decide)) hG g4 g5 g7 g8 (by omega)  (fun r45 M49 hG47 F46 p_48 => ?_)))
        have F50 := FR.c F0 F46 tg_296
        refine to_r0 (pc := 53) rw_219_53 ?_
        have c_51 : M49.2.1 77 7 = (N.2.1 77 7) := (F_n F46 (show ¬ (77 = 77 ∧ (7 = 42 ∨ 7 = 43) ∨ 94 ≤ 77 ∧ 77 ≤ 98 ∨ 77 = 99 ∨ 77 = 100 ∨ 77 = 109 ∨ 77 = 110 ∨ 77 = 111) by decide) rfl)
        have t_52 : (M49.2.1 77 7).toInt = (N.2.1 77 7).toInt := congrArg Int32.toInt c_51
        have c_53 : M49.2.1 77 6 = (N.2.1 77 6) := (F_n F46 (show ¬ (77 = 77 ∧ (6 = 42 ∨ 6 = 43) ∨ 94 ≤ 77 ∧ 77 ≤ 98 ∨ 77 = 99 ∨ 77 = 100 ∨ 77 = 109 ∨ 77 = 110 ∨ 77 = 111) by decide) rfl)
        have t_54 : (M49.2.1 77 6).toInt = (N.2.1 77 6).toInt := congrArg Int32.toInt c_53
        have j_55 := (FA_f (tg_288 F46) g2)
        have j_56 := (WC_f (tg_289 F46) g3)
        have j_57 := (NJ_f (tg_290 F46) g4)
        have j_58 := (KQ_f (tg_291 F46) g6)
        have c_59 : M49.2.1 77 1 = (N.2.1 77 1) := (F_n F46 (show ¬ (77 = 77 ∧ (1 = 42 ∨ 1 = 43) ∨ 94 ≤ 77 ∧ 77 ≤ 98 ∨ 77 = 99 ∨ 77 = 100 ∨ 77 = 109 ∨ 77 = 110 ∨ 77 = 111) by decide) rfl)
        have t_60 : (M49.2.1 77 1).toInt = (N.2.1 77 1).toInt := congrArg Int32.toInt c_59
        exact h r45 M49 hG47 F50 (by omega) j_55 j_56 j_57 p_48 j_58 (by omega) (by omega)
      · refine to_an (pc := 40) rw_219_40 rfl (s_v (pc := 41) rw_219_41 (dp0 hd (by decide)) (ls0 := [.ref 77, .null]) rfl (Nat.le_of_ble_eq_true rfl) (Nat.le_of_ble_eq_true rfl) rfl (to_rc rfl rfl rfl (g_o hG rfl)) rfl (C_215 hX (dp1 hd (by decide)) hG (by omega) g7 g8  (fun r61 M72 hG63 F62 p_64 p_65 p_66 p_67 p_68 p_69 p_70 p_71 => ?_)))
        have F73 := FR.c F0 F62 tg_295
        have b_74 := g_b hG63 (a := 77) (i := 7) (lo := 0) (hi := 500) rfl rfl
        have c_75 : M72.2.1 77 6 = (N.2.1 77 6) := (F_n F62 (show ¬ (77 = 77 ∧ (6 = 4 ∨ 6 = 5 ∨ 7 ≤ 6 ∧ 6 ≤ 10) ∨ 77 = 77 ∧ (6 = 44 ∨ 6 = 52) ∨ 101 ≤ 77 ∧ 77 ≤ 108) by decide) rfl)
        have t_76 : (M72.2.1 77 6).toInt = (N.2.1 77 6).toInt := congrArg Int32.toInt c_75
        have b_77 := g_b hG63 (a := 77) (i := 8) (lo := 0) (hi := 5) rfl rfl
        refine b_ine (pc := 44) rw_219_44 (A := r61.toInt) rfl (fun h78 => ?_) (fun h78 => ?_)
        · have j_79 := (FA_f (tg_283 F62) g2)
          have j_80 := (WC_f (tg_284 F62) g3)
          have j_81 := (NJ_f (tg_285 F62) g4)
          have j_82 := (PS_f (tg_286 F62) g5)
          have j_83 := (KQ_f (tg_287 F62) g6)
          have c_84 : M72.2.1 77 1 = (N.2.1 77 1) := (F_n F62 (show ¬ (77 = 77 ∧ (1 = 4 ∨ 1 = 5 ∨ 7 ≤ 1 ∧ 1 ≤ 10) ∨ 77 = 77 ∧ (1 = 44 ∨ 1 = 52) ∨ 101 ≤ 77 ∧ 77 ≤ 108) by decide) rfl)
          have t_85 : (M72.2.1 77 1).toInt = (N.2.1 77 1).toInt := congrArg Int32.toInt c_84
          exact ih M72 (u1) hG63 F73 (by omega) j_79 j_80 j_81 j_82 j_83 (p_70 (by omega)) (p_71 (by omega)) (by omega) (by omega) (by omega) (by omega)
        · refine to_c (pc := 47) rw_219_47 (x := (-1 : Int32)) rfl rfl (to_r0 (pc := 48) rw_219_48 ?_)
          have k_86 : (-1 : Int32).toInt = -1 := rfl
          have j_87 := (FA_f (tg_283 F62) g2)
          have j_88 := (WC_f (tg_284 F62) g3)
          have j_89 := (NJ_f (tg_285 F62) g4)
          have j_90 := (PS_f (tg_286 F62) g5)
          have j_91 := (KQ_f (tg_287 F62) g6)
          have c_92 : M72.2.1 77 1 = (N.2.1 77 1) := (F_n F62 (show ¬ (77 = 77 ∧ (1 = 4 ∨ 1 = 5 ∨ 7 ≤ 1 ∧ 1 ≤ 10) ∨ 77 = 77 ∧ (1 = 44 ∨ 1 = 52) ∨ 101 ≤ 77 ∧ 77 ≤ 108) by decide) rfl)
          have t_93 : (M72.2.1 77 1).toInt = (N.2.1 77 1).toInt := congrArg Int32.toInt c_92
          exact h (-1 : Int32) M72 hG63 F73 (by omega) j_87 j_88 j_89 j_90 j_91 (by omega) (by omega)
set_option maxRecDepth 4000 in
set_option maxHeartbeats 0 in
theorem C_219 {X : mm_X} {d : Nat} {M : mm_M} {Q : Option Value → mm_M → Prop} {n : Int32} (hX : g_X X) (hd : 5 ≤ d) (hG : g_G M) (q1 : (M.2.1 77 7).toInt ≤ (M.2.1 77 6).toInt) (q2 : FA M) (q3 : WC M) (q4 : NJ M) (q5 : PS M) (q6 : KQ M) (h : ∀ (r : Int32) (M1 : mm_M), g_G M1 → FR md_wk M M1 → ((M1.2.1 77 7).toInt ≤ (M1.2.1 77 6).toInt) → FA M1 → WC M1 → NJ M1 → PS M1 → KQ M1 → (n.toInt < 0 ∨ (M.2.1 77 1).toInt < n.toInt → (M1.2.1 77 1).toInt = (M.2.1 77 1).toInt) → (0 ≤ n.toInt ∧ n.toInt ≤ (M.2.1 77 1).toInt → (M1.2.1 77 1).toInt = 0) → Q (some (.int r)) M1) : mm_T X d 218 0 [.ref 77, .int n] [] M Q := by
  have F0 : FR md_wk M M := FR.rf
  have b_94 := g_b hG (a := 77) (i := 7) (lo := 0) (hi := 500) rfl rfl
  have b_95 := g_b hG (a := 77) (i := 6) (lo := 0) (hi := 500) rfl rfl
  refine to_an (pc := 0) rw_219_0 rfl (to_c (pc := 1) rw_219_1 (x := (0 : Int32)) rfl rfl (s_pI (pc := 2) rw_219_2 hG rfl (fun M97 W96 => ?_)))
  have hG98 := g_wf hG W96 rfl rfl (by decide)
  have F99 := FR.w F0 W96 (show 77 = 77 ∧ (1 ≤ 2 ∧ 2 ≤ 2 ∨ 4 ≤ 2 ∧ 2 ≤ 10 ∨ 42 ≤ 2 ∧ 2 ≤ 44 ∨ 2 = 52) ∨ 94 ≤ 77 ∧ 77 ≤ 111 by decide)
  refine to_an (pc := 5) rw_219_5 rfl (to_in (pc := 6) rw_219_6 rfl (s_v (pc := 7) rw_219_7 (dp0 hd (by decide)) (ls0 := [.ref 77, .int n]) rfl (Nat.le_of_ble_eq_true rfl) (Nat.le_of_ble_eq_true rfl) rfl (to_rc rfl rfl rfl (g_o hG98 rfl)) rfl ?_))
  have c_100 : M97.2.1 77 1 = (M.2.1 77 1) := (W_n W96 (by decide) rfl)
  have b_101 := g_b hG (a := 77) (i := 1) (lo := 0) (hi := 500) rfl rfl
  have t_102 : (M97.2.1 77 1).toInt = (M.2.1 77 1).toInt := congrArg Int32.toInt c_100
  have c_103 : M97.2.1 77 7 = (M.2.1 77 7) := (W_n W96 (by decide) rfl)
  have t_104 : (M97.2.1 77 7).toInt = (M.2.1 77 7).toInt := congrArg Int32.toInt c_103
  have c_105 : M97.2.1 77 6 = (M.2.1 77 6) := (W_n W96 (by decide) rfl)
  have t_106 : (M97.2.1 77 6).toInt = (M.2.1 77 6).toInt := congrArg Int32.toInt c_105
  refine C_163 hX (dp1 hd (by decide)) hG98 (by omega) (n := n) (fun r107 M115 hG109 F108 p_110 p_111 p_112 p_113 p_114 => ?_)
  have F116 := FR.c F99 F108 tg_297
  have b_117 := g_b hG109 (a := 77) (i := 7) (lo := 0) (hi := 500) rfl rfl
  have b_118 := g_b hG109 (a := 77) (i := 6) (lo := 0) (hi := 500) rfl rfl
  have b_119 := g_b hG109 (a := 77) (i := 1) (lo := 0) (hi := 500) rfl rfl
  refine b_ine (pc := 10) rw_219_10 (A := r107.toInt) rfl (fun h120 => ?_) (fun h120 => ?_)
  · refine to_an (pc := 16) rw_219_16 rfl (to_c (pc := 17) rw_219_17 (x := (0 : Int32)) rfl rfl (s_pI (pc := 18) rw_219_18 hG109 rfl (fun M122 W121 => ?_)))
    have hG123 := g_w hG109 W121 (A := 0) rfl (lo := 0) (hi := 40) rfl rfl (by omega) (by decide)
    have F124 := FR.w F116 W121 (show 77 = 77 ∧ (1 ≤ 44 ∧ 44 ≤ 2 ∨ 4 ≤ 44 ∧ 44 ≤ 10 ∨ 42 ≤ 44 ∧ 44 ≤ 44 ∨ 44 = 52) ∨ 94 ≤ 77 ∧ 77 ≤ 111 by decide)
    refine to_an (pc := 21) rw_219_21 rfl (to_c (pc := 22) rw_219_22 (x := (0 : Int32)) rfl rfl (s_pI (pc := 23) rw_219_23 hG123 rfl (fun M126 W125 => ?_)))
    have hG127 := g_w hG123 W125 (A := 0) rfl (lo := 0) (hi := 5) rfl rfl (by omega) (by decide)
    have F128 := FR.w F124 W125 (show 77 = 77 ∧ (1 ≤ 52 ∧ 52 ≤ 2 ∨ 4 ≤ 52 ∧ 52 ≤ 10 ∨ 42 ≤ 52 ∧ 52 ≤ 44 ∨ 52 = 52) ∨ 94 ≤ 77 ∧ 77 ≤ 111 by decide)
    have c_129 : M126.2.1 77 44 = (0 : Int32) := (W_n W125 (by decide) (W_e W121))
    have k_130 : (0 : Int32).toInt = 0 := rfl
    have t_131 : (M126.2.1 77 44).toInt = (0 : Int32).toInt := congrArg Int32.toInt c_129
    have c_132 : M126.2.1 77 52 = (0 : Int32) := (W_e W125)
    have t_133 : (M126.2.1 77 52).toInt = (0 : Int32).toInt := congrArg Int32.toInt c_132
    have j_134 : AB M126 := AB_0 (by omega)
    have j_135 : ST M126 := ST_0 (by omega) (by omega)
    have c_136 : M126.2.1 77 7 = (M115.2.1 77 7) := (W_n W125 (by decide) (W_n W121 (by decide) rfl))
    have t_137 : (M126.2.1 77 7).toInt = (M115.2.1 77 7).toInt := congrArg Int32.toInt c_136
    have c_138 : M126.2.1 77 6 = (M115.2.1 77 6) := (W_n W125 (by decide) (W_n W121 (by decide) rfl))
    have t_139 : (M126.2.1 77 6).toInt = (M115.2.1 77 6).toInt := congrArg Int32.toInt c_138
    have j_140 := (FA_f (fun a i z => W_n W125 (tg_302 a i z) rfl) (FA_f (fun a i z => W_n W121 (tg_303 a i z) rfl) (FA_f (tg_239 F108) (FA_f (fun a i z => W_n W96 (tg_94 a i z) rfl) q2))))
    have j_141 := (WC_f (fun a i z => W_n W125 (by /-r77,52-/ omega) rfl) (WC_f (fun a i z => W_n W121 (by /-r77,44-/ omega) rfl) (WC_f (tg_241 F108) (WC_f (fun a i z => W_n W96 (by /-r77,2-/ omega) rfl) q3))))
    have j_142 := (NJ_f (fun a i z => W_n W125 (by /-r77,52-/ omega) rfl) (NJ_f (fun a i z => W_n W121 (by /-r77,44-/ omega) rfl) (NJ_f (tg_243 F108) (NJ_f (fun a i z => W_n W96 (by /-r77,2-/ omega) rfl) q4))))
    have j_143 := (PS_f (fun a i z => W_n W125 (tg_304 a i z) rfl) (PS_f (fun a i z => W_n W121 (tg_305 a i z) rfl) (PS_f (tg_245 F108) (PS_f (fun a i z => W_n W96 (tg_259 a i z) rfl) q5))))
    have j_144 := (KQ_f (fun a i z => W_n W125 (by /-r77,52-/ omega) rfl) (KQ_f (fun a i z => W_n W121 (by /-r77,44-/ omega) rfl) (KQ_f (tg_247 F108) (KQ_f (fun a i z => W_n W96 (by /-r77,2-/ omega) rfl) q6))))
    have c_145 : M126.2.1 77 1 = (M115.2.1 77 1) := (W_n W125 (by decide) (W_n W121 (by decide) rfl))
    have t_146 : (M126.2.1 77 1).toInt = (M115.2.1 77 1).toInt := congrArg Int32.toInt c_145
    have c_147 : M126.2.1 77 8 = (M115.2.1 77 8) := (W_n W125 (by decide) (W_n W121 (by decide) rfl))
    have b_148 := g_b hG109 (a := 77) (i := 8) (lo := 0) (hi := 5) rfl rfl
    have t_149 : (M126.2.1 77 8).toInt = (M115.2.1 77 8).toInt := congrArg Int32.toInt c_147
    exact (T_219_0 (n := n) hX hd q1 q2 q3 q4 q5 q6 h ((6 * (500 - (M126.2.1 77 7).toInt) + (M126.2.1 77 8).toInt).toNat + 1)) M126 (.int n) hG127 F128 (by omega) j_140 j_141 j_142 j_143 j_144 j_134 j_135 (by omega) (by omega) (by omega) (by omega)
  · refine to_c (pc := 13) rw_219_13 (x := (-2 : Int32)) rfl rfl (to_r0 (pc := 15) rw_219_15 ?_)
    have k_150 : (-2 : Int32).toInt = -2 := rfl
    have j_151 := (FA_f (tg_239 F108) (FA_f (fun a i z => W_n W96 (tg_94 a i z) rfl) q2))
    have j_152 := (WC_f (tg_241 F108) (WC_f (fun a i z => W_n W96 (by /-r77,2-/ omega) rfl) q3))
    have j_153 := (NJ_f (tg_243 F108) (NJ_f (fun a i z => W_n W96 (by /-r77,2-/ omega) rfl) q4))
    have j_154 := (PS_f (tg_245 F108) (PS_f (fun a i z => W_n W96 (tg_259 a i z) rfl) q5))
    have j_155 := (KQ_f (tg_247 F108) (KQ_f (fun a i z => W_n W96 (by /-r77,2-/ omega) rfl) q6))
    exact h (-2 : Int32) M115 hG109 F116 (by omega) j_151 j_152 j_153 j_154 j_155 (by omega) (by omega)
