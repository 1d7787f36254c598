theorem tg_232 {M M1 : mm_M} (F : FR (fun a i : Nat => a = 99 ∨ a = 100) M M1) : ∀ a i : Nat, AB_r a i → M1.2.1 a i = M.2.1 a i := fun a i z => F_n F (show ¬ (a = 99 ∨ a = 100) by omega) rfl
theorem tg_233 {M M1 : mm_M} (F : FR (fun a i : Nat => a = 99 ∨ a = 100) M M1) : ∀ a i : Nat, (a = 77 ∧ 11 ≤ i ∧ i ≤ 13 ∨ 80 ≤ a ∧ a ≤ 84 ∧ i < 8 ∨ 85 ≤ a ∧ a ≤ 86 ∧ i < 12) → M1.2.1 a i = M.2.1 a i := fun a i z => F_n F (show ¬ (a = 99 ∨ a = 100) by omega) rfl
theorem tg_234 {M M1 : mm_M} (F : FR (fun a i : Nat => a = 77 ∧ i = 42 ∨ a = 99 ∨ a = 100 ∨ a = 109) M M1) : ∀ a i : Nat, AB_r a i → M1.2.1 a i = M.2.1 a i := fun a i z => F_n F (show ¬ (a = 77 ∧ i = 42 ∨ a = 99 ∨ a = 100 ∨ a = 109) by omega) rfl
theorem tg_235 {M M1 : mm_M} (F : FR (fun a i : Nat => a = 77 ∧ i = 42 ∨ a = 99 ∨ a = 100 ∨ a = 109) M M1) : ∀ a i : Nat, (a = 77 ∧ 11 ≤ i ∧ i ≤ 13 ∨ 80 ≤ a ∧ a ≤ 84 ∧ i < 8 ∨ 85 ≤ a ∧ a ≤ 86 ∧ i < 12) → M1.2.1 a i = M.2.1 a i := fun a i z => F_n F (show ¬ (a = 77 ∧ i = 42 ∨ a = 99 ∨ a = 100 ∨ a = 109) by omega) rfl
theorem tg_236 {M M1 : mm_M} (F : FR (fun a i : Nat => 94 ≤ a ∧ a ≤ 98) M M1) : ∀ a i : Nat, ST_r a i → M1.2.1 a i = M.2.1 a i := fun a i z => F_n F (show ¬ (94 ≤ a ∧ a ≤ 98) by omega) rfl
theorem tg_237 {M M1 : mm_M} (F : FR (fun a i : Nat => 94 ≤ a ∧ a ≤ 98) M M1) : ∀ a i : Nat, AB_r a i → M1.2.1 a i = M.2.1 a i := fun a i z => F_n F (show ¬ (94 ≤ a ∧ a ≤ 98) by omega) rfl
theorem tg_238 : ∀ a i : Nat, (a = 99 ∨ a = 100) → (a = 77 ∧ (i = 42 ∨ i = 43) ∨ 94 ≤ a ∧ a ≤ 98 ∨ a = 99 ∨ a = 100 ∨ a = 109 ∨ a = 110 ∨ a = 111) := fun a i z => by omega
theorem tg_239 : ∀ a i : Nat, (a = 77 ∧ i = 42 ∨ a = 99 ∨ a = 100 ∨ a = 109) → (a = 77 ∧ (i = 42 ∨ i = 43) ∨ 94 ≤ a ∧ a ≤ 98 ∨ a = 99 ∨ a = 100 ∨ a = 109 ∨ a = 110 ∨ a = 111) := fun a i z => by omega
theorem tg_240 : ∀ a i : Nat, (94 ≤ a ∧ a ≤ 98) → (a = 77 ∧ (i = 42 ∨ i = 43) ∨ 94 ≤ a ∧ a ≤ 98 ∨ a = 99 ∨ a = 100 ∨ a = 109 ∨ a = 110 ∨ a = 111) := fun a i z => by omega
theorem tg_241 : ∀ a i j : Nat, (a = 77 ∧ 11 ≤ i ∧ i ≤ 13 ∨ 80 ≤ a ∧ a ≤ 84 ∧ i < 8 ∨ 85 ≤ a ∧ a ≤ 86 ∧ i < 12) → ¬ (a = 111 ∧ i = j) := fun a i j z => by omega
theorem tg_242 : ∀ a i j : Nat, (a = 77 ∧ 11 ≤ i ∧ i ≤ 13 ∨ 80 ≤ a ∧ a ≤ 84 ∧ i < 8 ∨ 85 ≤ a ∧ a ≤ 86 ∧ i < 12) → ¬ (a = 110 ∧ i = j) := fun a i j z => by omega
theorem tg_243 : ∀ a i : Nat, (a = 77 ∧ 11 ≤ i ∧ i ≤ 13 ∨ 80 ≤ a ∧ a ≤ 84 ∧ i < 8 ∨ 85 ≤ a ∧ a ≤ 86 ∧ i < 12) → ¬ (a = 77 ∧ i = 43) := fun a i z => by omega
theorem tg_244 : ∀ a i : Nat, (a = 77 ∧ 11 ≤ i ∧ i ≤ 13 ∨ 80 ≤ a ∧ a ≤ 84 ∧ i < 8 ∨ 85 ≤ a ∧ a ≤ 86 ∧ i < 12) → ¬ (a = 77 ∧ i = 42) := fun a i z => by omega
set_option maxRecDepth 4000 in
set_option maxHeartbeats 0 in
theorem U_218_0 {X : mm_X} {d : Nat} {M : mm_M} {Q : Option Value → mm_M → Prop} {sg : x_S} {NN : x_N} {nz : Int} {ca : Int} {D8 : Int → x_D} {A9 : x_A} {n9 : Int} {P9 : x_P} {ov : Int32} (hX : g_X X) (hd : 3 ≤ d) (q1 : AB M) (q2 : ST M) (q3 : (M.2.1 77 52).toInt ≤ 0) (q4 : (M.2.1 77 44).toInt = n9) (q5 : (M.2.1 77 11).toInt = sg.1) (q6 : WKr (D8, (x_kn sg NN nz.toNat).2.2.2, sg.2.2.1) M A9 n9 []) (q7 : GDA D8 sg.1 A9 n9) (q8 : M.2.1 77 41 = ov) (q9 : PKr M P9) (q10 : x_pg P9 ca ca) (q11 : x_vn sg ca NN nz) (q12 : ca ≤ 30) (q13 : (M.2.1 77 29).toInt = nz) (q14 : (M.2.1 77 28).toInt = ca) (q15 : CWk M sg) (q16 : FA M) (q17 : PLk M sg) (q18 : W8 M) (q19 : NTr M NN nz) (h : ∀ (r : Int32) (M1 : mm_M), g_G M1 → FR md_do M M1 → (0 ≤ r.toInt) → (r.toInt ≤ 1) → (∃ P1 : x_P, PKr M1 P1 ∧ x_pg P1 ca ca ∧ RUN A9 (x_U D8 (x_dt (x_kn sg NN nz.toNat) ov sg.1) A9) n9 (0, [], 0, (0, P9)) (r.toInt, (M1.2.1 77 43).toInt, ((M1.2.1 77 42).toInt, P1))) → Q (some (.int r)) M1) : ∀ nn9 : Nat, (∀ (N : mm_M) (x1 : Int32) (x2 : Int32), g_G N → FR md_do M N → (0 ≤ x1.toInt) → (x1.toInt ≤ 5) → (0 ≤ x2.toInt) → (x2.toInt ≤ 40) → (x2.toInt ≤ (N.2.1 77 44).toInt) → (DK N x2.toInt (x1.toInt).toNat) → (∀ i : Nat, i < (x1.toInt).toNat → 1 ≤ (N.2.1 111 i).toInt) → (AB N) → ((N.2.1 77 44).toInt = n9) → ((N.2.1 77 11).toInt = sg.1) → ((N.2.1 77 42).toInt ≤ (N.2.1 77 43).toInt) → (PLk N sg) → (N.2.1 77 41 = ov) → (KST N 96 98 97 95 ca sg (x_kn sg NN nz.toNat)) → (WKr (D8, (x_kn sg NN nz.toNat).2.2.2, sg.2.2.1) N A9 n9 []) → (∃ P : x_P, PKr N P ∧ x_pg P ca ca ∧ RNK A9 (x_U D8 (x_dt (x_kn sg NN nz.toNat) ov sg.1) A9) n9 P9 N P x2.toInt (x1.toInt).toNat) → (3000 - (N.2.1 77 43).toInt) * 1000 + LSm N (x1.toInt).toNat < (nn9 : Int) → mm_T X d 217 22 [.ref 77, .int x1, .int x2] [] N Q) := by
  intro nn9
  induction nn9 with
  | zero =>
    intro N x1 x2 hG F0 g1 g2 g3 g4 g5 g6 g7 g8 g9 g10 g11 g12 g13 g14 g15 g16 hm
    have b_1 := g_b hG (a := 77) (i := 43) (lo := 0) (hi := 3000) rfl rfl
    have b_2 := g_b hG (a := 77) (i := 44) (lo := 0) (hi := 40) rfl rfl
    have b_3 := g_b hG (a := 77) (i := 11) (lo := 10) (hi := 60) rfl rfl
    have s_4 := LSm_nn hG (x1.toInt).toNat
    exfalso; omega
  | succ nn9 ih =>
    intro N x1 x2 hG F0 g1 g2 g3 g4 g5 g6 g7 g8 g9 g10 g11 g12 g13 g14 g15 g16 hm
    have b_5 := g_b hG (a := 77) (i := 43) (lo := 0) (hi := 3000) rfl rfl
    have b_6 := g_b hG (a := 77) (i := 44) (lo := 0) (hi := 40) rfl rfl
    have b_7 := g_b hG (a := 77) (i := 11) (lo := 10) (hi := 60) rfl rfl
    have s_8 := LSm_nn hG (x1.toInt).toNat
    obtain ⟨Pn, pn1, pn2, pn3⟩ := id g16
    refine to_in (pc := 22) rw_218_22 rfl ?_
    refine b_ile (pc := 23) rw_218_23 (A := x1.toInt) rfl (fun h9 => ?_) (fun h9 => ?_)
    · refine to_in (pc := 86) rw_218_86 rfl ?_
      refine to_an (pc := 87) rw_218_87 rfl ?_
      refine tt_gI (pc := 88) rw_218_88 (g_o hG rfl) (v := (N.2.1 77 44)) rfl ?_
      refine b_cne (pc := 91) rw_218_91 (A := x2.toInt) (B := (N.2.1 77 44).toInt) rfl rfl (fun h10 => ?_) (fun h10 => ?_)
      · refine to_an (pc := 96) rw_218_96 rfl ?_
        refine tt_gI (pc := 97) rw_218_97 (g_o hG rfl) (v := (N.2.1 77 43)) rfl ?_
        refine to_c (pc := 100) rw_218_100 (x := (3000 : Int32)) rfl rfl ?_
        refine b_cne (pc := 103) rw_218_103 (A := (N.2.1 77 43).toInt) (B := 3000) rfl rfl (fun h11 => ?_) (fun h11 => ?_)
        · refine to_an (pc := 108) rw_218_108 rfl ?_
          refine to_dupr (pc := 109) rw_218_109 ?_
          refine tt_gI (pc := 110) rw_218_110 (g_o hG rfl) (v := (N.2.1 77 43)) rfl ?_
          refine to_c (pc := 113) rw_218_113 (x := (1 : Int32)) rfl rfl ?_
          refine s_add (pc := 114) rw_218_114 (A := (N.2.1 77 43).toInt) (B := 1) rfl rfl (by omega) (fun v12 e13 => ?_)
          refine s_pI (pc := 115) rw_218_115 hG rfl (fun M15 W14 => ?_)
          have hG16 := g_w hG W14 (A := v12.toInt) rfl (lo := 0) (hi := 3000) rfl rfl (by omega) (by decide)
          have F17 := FR.w F0 W14 (show 77 = 77 ∧ (43 = 42 ∨ 43 = 43) ∨ 94 ≤ 77 ∧ 77 ≤ 98 ∨ 77 = 99 ∨ 77 = 100 ∨ 77 = 109 ∨ 77 = 110 ∨ 77 = 111 by decide)
          refine to_an (pc := 118) rw_218_118 rfl ?_
          refine s_gR (pc := 119) rw_218_119 hG16 rfl (v := 101) rfl ?_
          refine to_in (pc := 122) rw_218_122 rfl ?_
          refine s_ial (pc := 123) rw_218_123 hG16 rfl (n := 40) rfl rfl (A := x2.toInt) rfl (by omega) (by omega) (lo := 0) (hi := 2) rfl rfl (fun v18 w_19 _ _ => ?_)
          have c_20 : M15.2.1 77 44 = (N.2.1 77 44) := (W_n W14 (by decide) rfl)
          have t_21 : (M15.2.1 77 44).toInt = (N.2.1 77 44).toInt := congrArg Int32.toInt c_20
          have j_23 := (AB_f (fun a i z => W_n W14 (by /-r77,43-/ omega) rfl) g8)
          have s_22 := AB_u (A := x2.toInt) j_23 (by omega) (by omega) (by omega)
          have t_24 := congrArg Int32.toInt w_19
          have t_25 : (M15.2.1 101 (x2.toInt).toNat).toInt = (N.2.1 101 (x2.toInt).toNat).toInt := congrArg Int32.toInt (W_n W14 (by omega) rfl)
          have t_26 : (M15.2.1 102 (x2.toInt).toNat).toInt = (N.2.1 102 (x2.toInt).toNat).toInt := congrArg Int32.toInt (W_n W14 (by omega) rfl)
          have t_27 : (M15.2.1 103 (x2.toInt).toNat).toInt = (N.2.1 103 (x2.toInt).toNat).toInt := congrArg Int32.toInt (W_n W14 (by omega) rfl)
          have t_28 : (M15.2.1 104 (x2.toInt).toNat).toInt = (N.2.1 104 (x2.toInt).toNat).toInt := congrArg Int32.toInt (W_n W14 (by omega) rfl)
          refine b_ine (pc := 124) rw_218_124 (A := v18.toInt) rfl (fun h29 => ?_) (fun h29 => ?_)
          · refine to_an (pc := 132) rw_218_132 rfl ?_
            refine s_gR (pc := 133) rw_218_133 hG16 rfl (v := 101) rfl ?_
            refine to_in (pc := 136) rw_218_136 rfl ?_
            refine s_ialk (pc := 137) rw_218_137 hG16 rfl (n := 40) rfl rfl (A := x2.toInt) rfl (by omega) (by omega) (v := v18) w_19 ?_
            refine to_c (pc := 138) rw_218_138 (x := (1 : Int32)) rfl rfl ?_
            refine b_cne (pc := 139) rw_218_139 (A := v18.toInt) (B := 1) rfl rfl (fun h32 => ?_) (fun h32 => ?_)
            · refine to_an (pc := 147) rw_218_147 rfl ?_
              refine s_gR (pc := 148) rw_218_148 hG16 rfl (v := 101) rfl ?_
              refine to_in (pc := 151) rw_218_151 rfl ?_
              refine s_ialk (pc := 152) rw_218_152 hG16 rfl (n := 40) rfl rfl (A := x2.toInt) rfl (by omega) (by omega) (v := v18) w_19 ?_
              refine to_c (pc := 153) rw_218_153 (x := (2 : Int32)) rfl rfl ?_
              refine b_cge_t (pc := 154) rw_218_154 (A := v18.toInt) (B := 2) rfl rfl (by omega) ?_
              refine to_an (pc := 163) rw_218_163 rfl ?_
              refine s_gR (pc := 164) rw_218_164 hG16 rfl (v := 102) rfl ?_
              refine to_in (pc := 167) rw_218_167 rfl ?_
              refine s_ial (pc := 168) rw_218_168 hG16 rfl (n := 40) rfl rfl (A := x2.toInt) rfl (by omega) (by omega) (lo := -1) (hi := 99) rfl rfl (fun v35 w_36 _ _ => ?_)
              have t_37 := congrArg Int32.toInt w_36
              have s_38 := DK_le g6 (by omega) (by omega) (by have z : N.2.1 101 (x2.toInt).toNat = v18 := (((W_n W14 (by omega) rfl)).symm.trans w_19); rw [z]; omega) (Or.inl (by omega))
              refine b_ine (pc := 169) rw_218_169 (A := v35.toInt) rfl (fun h39 => ?_) (fun h39 => ?_)
              · refine to_an (pc := 182) rw_218_182 rfl ?_
                refine s_gR (pc := 183) rw_218_183 hG16 rfl (v := 110) rfl ?_
                refine to_in (pc := 186) rw_218_186 rfl ?_
                refine to_in (pc := 187) rw_218_187 rfl ?_
                refine s_ias (pc := 188) rw_218_188 hG16 rfl (n := 5) rfl (A := x1.toInt) rfl (by omega) (by omega) (fun M41 W40 => ?_)
                have hG42 := g_w hG16 W40 (A := x2.toInt) rfl (lo := 0) (hi := 39) rfl rfl (by omega) (by decide)
                have F43 := FR.w F17 W40 (show 110 = 77 ∧ ((x1.toInt).toNat = 42 ∨ (x1.toInt).toNat = 43) ∨ 94 ≤ 110 ∧ 110 ≤ 98 ∨ 110 = 99 ∨ 110 = 100 ∨ 110 = 109 ∨ 110 = 110 ∨ 110 = 111 by omega)
                refine to_an (pc := 189) rw_218_189 rfl ?_
                refine s_gR (pc := 190) rw_218_190 hG42 rfl (v := 111) rfl ?_
                refine to_in (pc := 193) rw_218_193 rfl ?_
                refine to_an (pc := 194) rw_218_194 rfl ?_
                refine s_gR (pc := 195) rw_218_195 hG42 rfl (v := 102) rfl ?_
                refine to_in (pc := 198) rw_218_198 rfl ?_
                refine s_ialk (pc := 199) rw_218_199 hG42 rfl (n := 40) rfl rfl (A := x2.toInt) rfl (by omega) (by omega) (v := v35) (W_n W40 (by omega) w_36) ?_
                refine s_ias (pc := 200) rw_218_200 hG42 rfl (n := 5) rfl (A := x1.toInt) rfl (by omega) (by omega) (fun M47 W46 => ?_)
                have hG48 := g_w hG42 W46 (A := v35.toInt) rfl (lo := 0) (hi := 99) rfl rfl (by omega) (by decide)
                have F49 := FR.w F43 W46 (show 111 = 77 ∧ ((x1.toInt).toNat = 42 ∨ (x1.toInt).toNat = 43) ∨ 94 ≤ 111 ∧ 111 ≤ 98 ∨ 111 = 99 ∨ 111 = 100 ∨ 111 = 109 ∨ 111 = 110 ∨ 111 = 111 by omega)
                refine s_inc (pc := 201) rw_218_201 (ls2 := fun v => [.ref 77, .int v, .int x2]) rfl rfl (fun _ => rfl) (A := x1.toInt) (B := 1) rfl rfl (by omega) (fun v50 e51 => ?_)
                refine s_inc (pc := 204) rw_218_204 (ls2 := fun v => [.ref 77, .int v50, .int v]) rfl rfl (fun _ => rfl) (A := x2.toInt) (B := 1) rfl rfl (by omega) (fun v52 e53 => ?_)
                refine to_go (pc := 207) rw_218_207 ?_
                have c_54 : M47.2.1 77 44 = (N.2.1 77 44) := (W_n W46 (fun z => absurd z.1 (by decide)) (W_n W40 (fun z => absurd z.1 (by decide)) c_20))
                have t_55 : (M47.2.1 77 44).toInt = (N.2.1 77 44).toInt := congrArg Int32.toInt c_54
                have s_56 : LSm M47 (v50.toInt).toNat = LSm M47 ((x1.toInt).toNat + 1) := by rw [show (v50.toInt).toNat = (x1.toInt).toNat + 1 by omega]
                have s_57 := LSm_s (M := M47) (x1.toInt).toNat
                have s_58 : LSm M47 (x1.toInt).toNat = LSm N (x1.toInt).toNat := LSm_f _ (fun i z => (W_n W46 (by omega) (W_n W40 (by omega) (W_n W14 (by omega) rfl))))
                have s_59 : (M47.2.1 111 (x1.toInt).toNat).toInt = v35.toInt := by rw [show (x1.toInt).toNat = (x1.toInt).toNat by omega]; exact congrArg Int32.toInt (W_e W46)
                have j_60 := (AB_f (fun a i z => W_n W46 (by /-r111-/ omega) rfl) (AB_f (fun a i z => W_n W40 (by /-r110-/ omega) rfl) j_23))
                have c_61 : M47.2.1 77 11 = (N.2.1 77 11) := (W_n W46 (fun z => absurd z.1 (by decide)) (W_n W40 (fun z => absurd z.1 (by decide)) (W_n W14 (by decide) rfl)))
                have t_62 : (M47.2.1 77 11).toInt = (N.2.1 77 11).toInt := congrArg Int32.toInt c_61
                have c_63 : M47.2.1 77 42 = (N.2.1 77 42) := (W_n W46 (fun z => absurd z.1 (by decide)) (W_n W40 (fun z => absurd z.1 (by decide)) (W_n W14 (by decide) rfl)))
                have t_64 : (M47.2.1 77 42).toInt = (N.2.1 77 42).toInt := congrArg Int32.toInt c_63
                have c_65 : M47.2.1 77 43 = v12 := (W_n W46 (fun z => absurd z.1 (by decide)) (W_n W40 (fun z => absurd z.1 (by decide)) (W_e W14)))
                have t_66 : (M47.2.1 77 43).toInt = v12.toInt := congrArg Int32.toInt c_65
                have j_67 := (PLk_f (fun a i z => W_n W46 (tg_241 a i _ z) rfl) (PLk_f (fun a i z => W_n W40 (tg_242 a i _ z) rfl) (PLk_f (fun a i z => W_n W14 (tg_243 a i z) rfl) g12)))
                have kn_68 : KST M47 96 98 97 95 ca sg (x_kn sg NN nz.toNat) := KST_f (fun i => (W_j W46 (W_j W40 (W_j W14 rfl)))) (fun i => (W_n W46 (by omega) (W_n W40 (by omega) (W_n W14 (by omega) rfl)))) (fun i => (W_n W46 (by omega) (W_n W40 (by omega) (W_n W14 (by omega) rfl)))) (fun i => (W_j W46 (W_j W40 (W_j W14 rfl)))) g14
                exact ih M47 v50 v52 hG48 F49 (by omega) (by omega) (by omega) (by omega) (by omega) (by rw [show (v50.toInt).toNat = (x1.toInt).toNat + 1 by omega, show v52.toInt = x2.toInt + 1 by omega]; exact DK_push g6 (by omega) (by omega) (by have z : N.2.1 101 (x2.toInt).toNat = v18 := (((W_n W14 (by omega) rfl)).symm.trans w_19); rw [z]; omega) (Or.inl (by omega)) (fun r i z => (W_n W46 (by omega) (W_n W40 (by omega) (W_n W14 (by omega) rfl)))) (by rw [(W_n W46 (by omega) (W_e W40))] <;> omega)) (fun i z => by
                    by_cases ei : i = (x1.toInt).toNat
                    · rw [ei]; omega
                    · rw [(W_n W46 (by omega) (W_n W40 (by omega) (W_n W14 (by omega) rfl)))]; exact g7 i (by omega)) j_60 (by omega) (by omega) (by omega) j_67 (((W_n W46 (by omega) (W_n W40 (by omega) (W_n W14 (by omega) rfl)))).trans g13) kn_68 (WKr_f (fun a i z => (W_n W46 (by /-r111-/ omega) (W_n W40 (by /-r110-/ omega) (W_n W14 (by /-r77,43-/ omega) rfl)))) (fun i => (W_j W46 (W_j W40 (W_j W14 rfl)))) g15) ⟨Pn, (PKr_f (fun a i z => (W_n W46 (by /-r111-/ omega) (W_n W40 (by /-r110-/ omega) (W_n W14 (by /-r77,43-/ omega) rfl)))) pn1), pn2, RNK_a1 pn3 g15 (Or.inl (by omega)) (by omega) (by omega) (by omega) (by rw [(show N.2.1 101 (x2.toInt).toNat = v18 from (((W_n W14 (by omega) rfl)).symm.trans w_19))]; omega) (by rw [(show N.2.1 102 (x2.toInt).toNat = v35 from (((W_n W14 (by omega) rfl)).symm.trans w_36))]; omega) (fun i hi => ⟨(W_n W46 (by omega) (W_n W40 (by omega) (W_n W14 (by omega) rfl))), (W_n W46 (by omega) (W_n W40 (by omega) (W_n W14 (by omega) rfl)))⟩) (by rw [show (x1.toInt).toNat = (x1.toInt).toNat by omega, show M47.2.1 110 (x1.toInt).toNat = x2 from (W_n W46 (by omega) (W_e W40))] <;> omega) (by rw [show (x1.toInt).toNat = (x1.toInt).toNat by omega, show M47.2.1 111 (x1.toInt).toNat = v35 from (W_e W46), (show N.2.1 102 (x2.toInt).toNat = v35 from (((W_n W14 (by omega) rfl)).symm.trans w_36))]) (by omega) (by omega) (by omega) (by omega)⟩ (by omega)
              · refine to_an (pc := 172) rw_218_172 rfl ?_
                refine s_gR (pc := 173) rw_218_173 hG16 rfl (v := 105) rfl ?_
                refine to_in (pc := 176) rw_218_176 rfl ?_
                refine s_ial (pc := 177) rw_218_177 hG16 rfl (n := 40) rfl rfl (A := x2.toInt) rfl (by omega) (by omega) (lo := 0) (hi := 40) rfl rfl (fun v69 w_70 _ _ => ?_)
                have t_71 := congrArg Int32.toInt w_70
                have s_72 := DK_skip g6 (by omega) (by omega) (by have z : N.2.1 101 (x2.toInt).toNat = v18 := (((W_n W14 (by omega) rfl)).symm.trans w_19); rw [z]; omega) (Or.inl (by omega))
                have s_73 := s_72.2
                rw [(((W_n W14 (by omega) rfl)).symm.trans w_70)] at s_73
                refine to_isn (pc := 178) rw_218_178 (ls2 := [.ref 77, .int x1, .int v69]) rfl rfl ?_
                refine to_go (pc := 179) rw_218_179 ?_
                have s_75 : LSm M15 (x1.toInt).toNat = LSm N (x1.toInt).toNat := LSm_f _ (fun i z => (W_n W14 (by omega) rfl))
                have c_76 : M15.2.1 77 11 = (N.2.1 77 11) := (W_n W14 (by decide) rfl)
                have t_77 : (M15.2.1 77 11).toInt = (N.2.1 77 11).toInt := congrArg Int32.toInt c_76
                have c_78 : M15.2.1 77 42 = (N.2.1 77 42) := (W_n W14 (by decide) rfl)
                have t_79 : (M15.2.1 77 42).toInt = (N.2.1 77 42).toInt := congrArg Int32.toInt c_78
                have c_80 : M15.2.1 77 43 = v12 := (W_e W14)
                have t_81 : (M15.2.1 77 43).toInt = v12.toInt := congrArg Int32.toInt c_80
                have j_82 := (PLk_f (fun a i z => W_n W14 (tg_243 a i z) rfl) g12)
                have kn_83 : KST M15 96 98 97 95 ca sg (x_kn sg NN nz.toNat) := KST_f (fun i => (W_j W14 rfl)) (fun i => (W_n W14 (by omega) rfl)) (fun i => (W_n W14 (by omega) rfl)) (fun i => (W_j W14 rfl)) g14
                exact ih M15 x1 v69 hG16 F17 (by omega) (by omega) (by omega) (by omega) (by omega) (DK_f (fun r i z => (W_n W14 (by omega) rfl)) (by have z := (s_72).1; rw [(((W_n W14 (by omega) rfl)).symm.trans w_70)] at z; exact z)) (fun i z => by rw [(W_n W14 (by omega) rfl)]; exact g7 i z) j_23 (by omega) (by omega) (by omega) j_82 (((W_n W14 (by omega) rfl)).trans g13) kn_83 (WKr_f (fun a i z => (W_n W14 (by /-r77,43-/ omega) rfl)) (fun i => (W_j W14 rfl)) g15) ⟨Pn, (PKr_f (fun a i z => (W_n W14 (by /-r77,43-/ omega) rfl)) pn1), pn2, RNK_a0 pn3 g15 (Or.inl (by omega)) (by omega) (by omega) (by omega) (by rw [(show N.2.1 101 (x2.toInt).toNat = v18 from (((W_n W14 (by omega) rfl)).symm.trans w_19))]; omega) (by rw [(show N.2.1 102 (x2.toInt).toNat = v35 from (((W_n W14 (by omega) rfl)).symm.trans w_36))]; omega) (fun r i z => (W_n W14 (by omega) rfl)) (by omega) (by omega) (by rw [show N.2.1 105 (x2.toInt).toNat = v69 from (((W_n W14 (by omega) rfl)).symm.trans w_70)]) (by omega)⟩ (by omega)
            · refine to_an (pc := 142) rw_218_142 rfl ?_
              refine to_in (pc := 143) rw_218_143 rfl ?_
              refine s_v (pc := 144) rw_218_144 (dp0 hd (by decide)) (ls0 := [.ref 77, .int x2, .null, .null]) rfl (Nat.le_of_ble_eq_true rfl) (Nat.le_of_ble_eq_true rfl) rfl (to_rc rfl rfl rfl (g_o hG16 rfl)) rfl ?_
              have z_84 := (WKr_f (fun a i z => (W_n W14 (by /-r77,43-/ omega) rfl)) (fun i => (W_j W14 rfl)) g15) ((x2.toInt).toNat) (by omega)
              have z_85 : A9.1 ((x2.toInt).toNat) = 1 := (z_84.2.1).symm.trans (by rw [(show M15.2.1 101 ((x2.toInt).toNat) = v18 from ((W_n W14 (by omega) rfl)).trans (((W_n W14 (by omega) rfl)).symm.trans w_19))]; omega)
              have z_86 := (q7 ((x2.toInt).toNat) (by omega)).2 z_85
              have z_87 : 0 ≤ (D8 (A9.2.1 ((x2.toInt).toNat))).1 ∧ (D8 (A9.2.1 ((x2.toInt).toNat))).1 ≤ 5 ∧ 0 ≤ (D8 (A9.2.1 ((x2.toInt).toNat))).2.1 ∧ (D8 (A9.2.1 ((x2.toInt).toNat))).2.1 ≤ 5 ∧ ¬ (D8 (A9.2.1 ((x2.toInt).toNat))).1 = (D8 (A9.2.1 ((x2.toInt).toNat))).2.1 := z_86
              have z_88 : (M15.2.1 102 ((x2.toInt).toNat)).toInt = (D8 (A9.2.1 ((x2.toInt).toNat))).1 ∧ (M15.2.1 103 ((x2.toInt).toNat)).toInt = (D8 (A9.2.1 ((x2.toInt).toNat))).2.1 := ⟨(z_84.2.2.2.2.2 z_85).1, (z_84.2.2.2.2.2 z_85).2⟩
              have t_89 : (M15.2.1 102 (x2.toInt).toNat).toInt = (N.2.1 102 (x2.toInt).toNat).toInt := congrArg Int32.toInt (W_n W14 (by omega) rfl)
              have t_90 : (M15.2.1 103 (x2.toInt).toNat).toInt = (N.2.1 103 (x2.toInt).toNat).toInt := congrArg Int32.toInt (W_n W14 (by omega) rfl)
              have j_91 := (PKr_f (fun a i z => W_n W14 (by /-r77,43-/ omega) rfl) pn1)
              refine E_217 hX (dp1 hd (by decide)) hG16 (by omega) (by omega) (by omega) (by omega) (by omega) (by omega) (by omega) (by omega) (by omega) (by omega) (by omega) j_91 pn2 (a := x2) (P9 := Pn) (ca := ca) (n9 := ca) (o9 := (D8 (A9.2.1 ((x2.toInt).toNat))).1) (t9 := (D8 (A9.2.1 ((x2.toInt).toNat))).2.1) (fun M95 hG93 F92 p_94 => ?_)
              have F96 := FR.c F17 F92 tg_238
              have c_97 : M95.2.1 77 42 = (N.2.1 77 42) := (F_n F92 (show ¬ (77 = 99 ∨ 77 = 100) by decide) (W_n W14 (by decide) rfl))
              have t_98 : (M95.2.1 77 42).toInt = (N.2.1 77 42).toInt := congrArg Int32.toInt c_97
              have c_99 : M95.2.1 77 43 = v12 := (F_n F92 (show ¬ (77 = 99 ∨ 77 = 100) by decide) (W_e W14))
              have t_100 : (M95.2.1 77 43).toInt = v12.toInt := congrArg Int32.toInt c_99
              refine to_an (pc := 147) rw_218_147 rfl ?_
              refine s_gR (pc := 148) rw_218_148 hG93 rfl (v := 101) rfl ?_
              refine to_in (pc := 151) rw_218_151 rfl ?_
              refine s_ialk (pc := 152) rw_218_152 hG93 rfl (n := 40) rfl rfl (A := x2.toInt) rfl (by omega) (by omega) (v := v18) (F_n F92 (show ¬ (101 = 99 ∨ 101 = 100) by decide) w_19) ?_
              refine to_c (pc := 153) rw_218_153 (x := (2 : Int32)) rfl rfl ?_
              refine b_cge_f (pc := 154) rw_218_154 (A := v18.toInt) (B := 2) rfl rfl (by omega) ?_
              refine s_inc (pc := 157) rw_218_157 (ls2 := fun v => [.ref 77, .int x1, .int v]) rfl rfl (fun _ => rfl) (A := x2.toInt) (B := 1) rfl rfl (by omega) (fun v103 e104 => ?_)
              refine to_go (pc := 160) rw_218_160 ?_
              have c_105 : M95.2.1 77 44 = (N.2.1 77 44) := (F_n F92 (show ¬ (77 = 99 ∨ 77 = 100) by decide) c_20)
              have t_106 : (M95.2.1 77 44).toInt = (N.2.1 77 44).toInt := congrArg Int32.toInt c_105
              have s_107 : LSm M95 (x1.toInt).toNat = LSm N (x1.toInt).toNat := LSm_f _ (fun i z => (F_n F92 (show ¬ (111 = 99 ∨ 111 = 100) by decide) (W_n W14 (by omega) rfl)))
              have j_108 := (AB_f (tg_232 F92) j_23)
              have c_109 : M95.2.1 77 11 = (N.2.1 77 11) := (F_n F92 (show ¬ (77 = 99 ∨ 77 = 100) by decide) (W_n W14 (by decide) rfl))
              have t_110 : (M95.2.1 77 11).toInt = (N.2.1 77 11).toInt := congrArg Int32.toInt c_109
              have j_111 := (PLk_f (tg_233 F92) (PLk_f (fun a i z => W_n W14 (tg_243 a i z) rfl) g12))
              have kn_112 : KST M95 96 98 97 95 ca sg (x_kn sg NN nz.toNat) := KST_f (fun i => (F_nl F92 (show ¬ (96 = 99 ∨ 96 = 100) by decide) (W_j W14 rfl))) (fun i => (F_n F92 (show ¬ (98 = 99 ∨ 98 = 100) by decide) (W_n W14 (by omega) rfl))) (fun i => (F_n F92 (show ¬ (97 = 99 ∨ 97 = 100) by decide) (W_n W14 (by omega) rfl))) (fun i => (F_nl F92 (show ¬ (95 = 99 ∨ 95 = 100) by decide) (W_j W14 rfl))) g14
              exact ih M95 x1 v103 hG93 F96 (by omega) (by omega) (by omega) (by omega) (by omega) (by rw [show v103.toInt = x2.toInt + 1 by omega]; exact (DK_f (fun r i z => (F_n F92 (show ¬ (r = 99 ∨ r = 100) by omega) (W_n W14 (by omega) rfl))) (DK_next g6 (Or.inl (by omega))))) (fun i z => by rw [(F_n F92 (show ¬ (111 = 99 ∨ 111 = 100) by decide) (W_n W14 (by omega) rfl))]; exact g7 i z) j_108 (by omega) (by omega) (by omega) j_111 (((F_n F92 (show ¬ (77 = 99 ∨ 77 = 100) by decide) (W_n W14 (by omega) rfl))).trans g13) kn_112 (WKr_f (fun a i z => (F_n F92 (show ¬ (a = 99 ∨ a = 100) by omega) (W_n W14 (by /-r77,43-/ omega) rfl))) (fun i => (F_nl F92 (show ¬ (106 = 99 ∨ 106 = 100) by decide) (W_j W14 rfl))) g15) ⟨_, p_94, x_pg_dl pn2 (by omega) (by omega) (by omega) (by omega) (by omega) (by omega), RNK_1 pn3 g15 (Or.inl (by omega)) (by omega) (by omega) (by omega) (Or.inr z_85) (fun r i z => (F_n F92 (show ¬ (r = 99 ∨ r = 100) by omega) (W_n W14 (by omega) rfl))) (by omega) (x_U_1 z_85 (by omega) rfl) (by omega) (by omega)⟩ (by omega)
          · refine to_an (pc := 127) rw_218_127 rfl ?_
            refine to_in (pc := 128) rw_218_128 rfl ?_
            refine s_v (pc := 129) rw_218_129 (dp0 hd (by decide)) (ls0 := [.ref 77, .int x2, .null, .null, .null, .null, .null]) rfl (Nat.le_of_ble_eq_true rfl) (Nat.le_of_ble_eq_true rfl) rfl (to_rc rfl rfl rfl (g_o hG16 rfl)) rfl ?_
            have c_113 : M15.2.1 77 42 = (N.2.1 77 42) := (W_n W14 (by decide) rfl)
            have t_114 : (M15.2.1 77 42).toInt = (N.2.1 77 42).toInt := congrArg Int32.toInt c_113
            have z_115 := (WKr_f (fun a i z => (W_n W14 (by /-r77,43-/ omega) rfl)) (fun i => (W_j W14 rfl)) g15) ((x2.toInt).toNat) (by omega)
            have z_116 : A9.1 ((x2.toInt).toNat) = 0 := (z_115.2.1).symm.trans (by rw [(show M15.2.1 101 ((x2.toInt).toNat) = v18 from ((W_n W14 (by omega) rfl)).trans (((W_n W14 (by omega) rfl)).symm.trans w_19))]; omega)
            have z_117 := (q7 ((x2.toInt).toNat) (by omega)).1 z_116
            have z_118 : 0 ≤ (D8 (A9.2.1 ((x2.toInt).toNat))).1 ∧ (D8 (A9.2.1 ((x2.toInt).toNat))).1 ≤ 5 ∧ 0 ≤ (D8 (A9.2.1 ((x2.toInt).toNat))).2.1 ∧ (D8 (A9.2.1 ((x2.toInt).toNat))).2.1 ≤ 5 ∧ 0 ≤ (D8 (A9.2.1 ((x2.toInt).toNat))).2.2.1 ∧ (D8 (A9.2.1 ((x2.toInt).toNat))).2.2.1 ≤ 5 := z_117.1
            have z_119 : (M15.2.1 102 ((x2.toInt).toNat)).toInt = (D8 (A9.2.1 ((x2.toInt).toNat))).1 ∧ (M15.2.1 103 ((x2.toInt).toNat)).toInt = (D8 (A9.2.1 ((x2.toInt).toNat))).2.1 ∧ (M15.2.1 104 ((x2.toInt).toNat)).toInt = (D8 (A9.2.1 ((x2.toInt).toNat))).2.2.1 := ⟨(z_115.2.2.2.2.1 z_116).1, (z_115.2.2.2.2.1 z_116).2.1, (z_115.2.2.2.2.1 z_116).2.2.1⟩
            have t_120 : (M15.2.1 102 (x2.toInt).toNat).toInt = (N.2.1 102 (x2.toInt).toNat).toInt := congrArg Int32.toInt (W_n W14 (by omega) rfl)
            have t_121 : (M15.2.1 103 (x2.toInt).toNat).toInt = (N.2.1 103 (x2.toInt).toNat).toInt := congrArg Int32.toInt (W_n W14 (by omega) rfl)
            have t_122 : (M15.2.1 104 (x2.toInt).toNat).toInt = (N.2.1 104 (x2.toInt).toNat).toInt := congrArg Int32.toInt (W_n W14 (by omega) rfl)
            have c_123 : M15.2.1 77 11 = (N.2.1 77 11) := (W_n W14 (by decide) rfl)
            have t_124 : (M15.2.1 77 11).toInt = (N.2.1 77 11).toInt := congrArg Int32.toInt c_123
            have j_125 := (PLk_f (fun a i z => W_n W14 (tg_243 a i z) rfl) g12)
            have kn_126 : KST M15 96 98 97 95 ca sg (x_kn sg NN nz.toNat) := KST_f (fun i => (W_j W14 rfl)) (fun i => (W_n W14 (by omega) rfl)) (fun i => (W_n W14 (by omega) rfl)) (fun i => (W_j W14 rfl)) g14
            have j_127 := (PKr_f (fun a i z => W_n W14 (by /-r77,43-/ omega) rfl) pn1)
            refine E_216 hX (dp1 hd (by decide)) hG16 (by omega) (by omega) (by omega) (by omega) (by omega) (by omega) (by omega) (by omega) (by omega) (by omega) (by omega) (by omega) (by omega) (by omega) (by omega) (((W_n W14 (by omega) rfl)).trans g13) j_125 kn_126 j_127 pn2 z_117.2 (z_115.2.2.2.2.1 z_116).2.2.2 (a := x2) (P9 := Pn) (sg := sg) (K := (x_kn sg NN nz.toNat)) (ca := ca) (ov := ov) (ho := sg.1) (n9 := ca) (nd9 := (D8 (A9.2.1 ((x2.toInt).toNat))).2.2.2) (f9 := (D8 (A9.2.1 ((x2.toInt).toNat))).1) (d9 := (D8 (A9.2.1 ((x2.toInt).toNat))).2.1) (l9 := (D8 (A9.2.1 ((x2.toInt).toNat))).2.2.1) (fun M132 hG129 F128 p_130 p_131 => ?_)
            have F133 := FR.c F17 F128 tg_239
            have c_134 : M132.2.1 77 43 = v12 := (F_n F128 (show ¬ (77 = 77 ∧ 43 = 42 ∨ 77 = 99 ∨ 77 = 100 ∨ 77 = 109) by decide) (W_e W14))
            have t_135 : (M132.2.1 77 43).toInt = v12.toInt := congrArg Int32.toInt c_134
            refine to_an (pc := 132) rw_218_132 rfl ?_
            refine s_gR (pc := 133) rw_218_133 hG129 rfl (v := 101) rfl ?_
            refine to_in (pc := 136) rw_218_136 rfl ?_
            refine s_ialk (pc := 137) rw_218_137 hG129 rfl (n := 40) rfl rfl (A := x2.toInt) rfl (by omega) (by omega) (v := v18) (F_n F128 (show ¬ (101 = 77 ∧ (x2.toInt).toNat = 42 ∨ 101 = 99 ∨ 101 = 100 ∨ 101 = 109) by omega) w_19) ?_
            refine to_c (pc := 138) rw_218_138 (x := (1 : Int32)) rfl rfl ?_
            refine b_cne_t (pc := 139) rw_218_139 (A := v18.toInt) (B := 1) rfl rfl (by omega) ?_
            refine to_an (pc := 147) rw_218_147 rfl ?_
            refine s_gR (pc := 148) rw_218_148 hG129 rfl (v := 101) rfl ?_
            refine to_in (pc := 151) rw_218_151 rfl ?_
            refine s_ialk (pc := 152) rw_218_152 hG129 rfl (n := 40) rfl rfl (A := x2.toInt) rfl (by omega) (by omega) (v := v18) (F_n F128 (show ¬ (101 = 77 ∧ (x2.toInt).toNat = 42 ∨ 101 = 99 ∨ 101 = 100 ∨ 101 = 109) by omega) w_19) ?_
            refine to_c (pc := 153) rw_218_153 (x := (2 : Int32)) rfl rfl ?_
            refine b_cge_f (pc := 154) rw_218_154 (A := v18.toInt) (B := 2) rfl rfl (by omega) ?_
            refine s_inc (pc := 157) rw_218_157 (ls2 := fun v => [.ref 77, .int x1, .int v]) rfl rfl (fun _ => rfl) (A := x2.toInt) (B := 1) rfl rfl (by omega) (fun v140 e141 => ?_)
            refine to_go (pc := 160) rw_218_160 ?_
            have c_142 : M132.2.1 77 44 = (N.2.1 77 44) := (F_n F128 (show ¬ (77 = 77 ∧ 44 = 42 ∨ 77 = 99 ∨ 77 = 100 ∨ 77 = 109) by decide) c_20)
            have t_143 : (M132.2.1 77 44).toInt = (N.2.1 77 44).toInt := congrArg Int32.toInt c_142
            have s_144 : LSm M132 (x1.toInt).toNat = LSm N (x1.toInt).toNat := LSm_f _ (fun i z => (F_n F128 (show ¬ (111 = 77 ∧ i = 42 ∨ 111 = 99 ∨ 111 = 100 ∨ 111 = 109) by omega) (W_n W14 (by omega) rfl)))
            have j_145 := (AB_f (tg_234 F128) j_23)
            have c_146 : M132.2.1 77 11 = (N.2.1 77 11) := (F_n F128 (show ¬ (77 = 77 ∧ 11 = 42 ∨ 77 = 99 ∨ 77 = 100 ∨ 77 = 109) by decide) c_123)
            have t_147 : (M132.2.1 77 11).toInt = (N.2.1 77 11).toInt := congrArg Int32.toInt c_146
            have j_148 := (PLk_f (tg_235 F128) j_125)
            have kn_149 : KST M132 96 98 97 95 ca sg (x_kn sg NN nz.toNat) := KST_f (fun i => (F_nl F128 (show ¬ (96 = 77 ∧ i = 42 ∨ 96 = 99 ∨ 96 = 100 ∨ 96 = 109) by omega) rfl)) (fun i => (F_n F128 (show ¬ (98 = 77 ∧ i = 42 ∨ 98 = 99 ∨ 98 = 100 ∨ 98 = 109) by omega) rfl)) (fun i => (F_n F128 (show ¬ (97 = 77 ∧ i = 42 ∨ 97 = 99 ∨ 97 = 100 ∨ 97 = 109) by omega) rfl)) (fun i => (F_nl F128 (show ¬ (95 = 77 ∧ i = 42 ∨ 95 = 99 ∨ 95 = 100 ∨ 95 = 109) by omega) rfl)) kn_126
            exact ih M132 x1 v140 hG129 F133 (by omega) (by omega) (by omega) (by omega) (by omega) (by rw [show v140.toInt = x2.toInt + 1 by omega]; exact (DK_f (fun r i z => (F_n F128 (show ¬ (r = 77 ∧ i = 42 ∨ r = 99 ∨ r = 100 ∨ r = 109) by omega) (W_n W14 (by omega) rfl))) (DK_next g6 (Or.inl (by omega))))) (fun i z => by rw [(F_n F128 (show ¬ (111 = 77 ∧ i = 42 ∨ 111 = 99 ∨ 111 = 100 ∨ 111 = 109) by omega) (W_n W14 (by omega) rfl))]; exact g7 i z) j_145 (by omega) (by omega) (by omega) j_148 (((F_n F128 (show ¬ (77 = 77 ∧ 41 = 42 ∨ 77 = 99 ∨ 77 = 100 ∨ 77 = 109) by decide) (W_n W14 (by omega) rfl))).trans g13) kn_149 (WKr_f (fun a i z => (F_n F128 (show ¬ (a = 77 ∧ i = 42 ∨ a = 99 ∨ a = 100 ∨ a = 109) by omega) (W_n W14 (by /-r77,43-/ omega) rfl))) (fun i => (F_nl F128 (show ¬ (106 = 77 ∧ i = 42 ∨ 106 = 99 ∨ 106 = 100 ∨ 106 = 109) by omega) (W_j W14 rfl))) g15) ⟨_, p_130, x_pg_dl pn2 (by omega) (by omega) (by omega) (by omega) (by omega) (by omega), RNK_1 pn3 g15 (Or.inl (by omega)) (by omega) (by omega) (by omega) (Or.inl z_116) (fun r i z => (F_n F128 (show ¬ (r = 77 ∧ i = 42 ∨ r = 99 ∨ r = 100 ∨ r = 109) by omega) (W_n W14 (by omega) rfl))) (by omega) (x_U_0 z_116 (by omega) rfl) (by omega) (by omega)⟩ (by omega)
        · refine to_c (pc := 106) rw_218_106 (x := (1 : Int32)) rfl rfl ?_
          refine to_r0 (pc := 107) rw_218_107 ?_
          have k_150 : (1 : Int32).toInt = 1 := rfl
          exact h (1 : Int32) N hG F0 (by decide) (by decide) ⟨Pn, pn1, pn2, RNK_e1 pn3 g15 (Or.inl (by omega)) (by omega) (by omega) (by omega)⟩
      · refine to_c (pc := 94) rw_218_94 (x := (0 : Int32)) rfl rfl ?_
        refine to_r0 (pc := 95) rw_218_95 ?_
        have k_151 : (0 : Int32).toInt = 0 := rfl
        exact h (0 : Int32) N hG F0 (by decide) (by decide) ⟨Pn, pn1, pn2, RNK_e0 pn3 g15 (Or.inl (by omega)) (by omega) (by omega)⟩
    · refine to_in (pc := 26) rw_218_26 rfl ?_
      refine to_an (pc := 27) rw_218_27 rfl ?_
      refine s_gR (pc := 28) rw_218_28 hG rfl (v := 105) rfl ?_
      refine to_an (pc := 31) rw_218_31 rfl ?_
      refine s_gR (pc := 32) rw_218_32 hG rfl (v := 110) rfl ?_
      refine to_in (pc := 35) rw_218_35 rfl ?_
      refine to_c (pc := 36) rw_218_36 (x := (1 : Int32)) rfl rfl ?_
      refine s_sub (pc := 37) rw_218_37 (A := x1.toInt) (B := 1) rfl rfl (by omega) (fun v152 e153 => ?_)
      refine s_ial (pc := 38) rw_218_38 hG rfl (n := 5) rfl rfl (A := v152.toInt) rfl (by omega) (by omega) (lo := 0) (hi := 39) rfl rfl (fun v154 w_155 _ _ => ?_)
      have s_156 : DK N x2.toInt ((v152.toInt).toNat + 1) := by rw [show (v152.toInt).toNat + 1 = (x1.toInt).toNat by omega]; exact g6
      have s_157 := DK_t s_156
      rw [w_155] at s_157
      refine s_ial (pc := 39) rw_218_39 hG rfl (n := 40) rfl rfl (A := v154.toInt) rfl (by omega) (by omega) (lo := 0) (hi := 40) rfl rfl (fun v158 w_159 _ _ => ?_)
      rw [w_159] at s_157
      refine b_cne (pc := 40) rw_218_40 (A := x2.toInt) (B := v158.toInt) rfl rfl (fun h160 => ?_) (fun h160 => ?_)
      · refine to_in (pc := 86) rw_218_86 rfl ?_
        refine to_an (pc := 87) rw_218_87 rfl ?_
        refine tt_gI (pc := 88) rw_218_88 (g_o hG rfl) (v := (N.2.1 77 44)) rfl ?_
        refine b_cne (pc := 91) rw_218_91 (A := x2.toInt) (B := (N.2.1 77 44).toInt) rfl rfl (fun h161 => ?_) (fun h161 => ?_)
        · refine to_an (pc := 96) rw_218_96 rfl ?_
          refine tt_gI (pc := 97) rw_218_97 (g_o hG rfl) (v := (N.2.1 77 43)) rfl ?_
          refine to_c (pc := 100) rw_218_100 (x := (3000 : Int32)) rfl rfl ?_
          refine b_cne (pc := 103) rw_218_103 (A := (N.2.1 77 43).toInt) (B := 3000) rfl rfl (fun h162 => ?_) (fun h162 => ?_)
          · refine to_an (pc := 108) rw_218_108 rfl ?_
            refine to_dupr (pc := 109) rw_218_109 ?_
            refine tt_gI (pc := 110) rw_218_110 (g_o hG rfl) (v := (N.2.1 77 43)) rfl ?_
            refine to_c (pc := 113) rw_218_113 (x := (1 : Int32)) rfl rfl ?_
            refine s_add (pc := 114) rw_218_114 (A := (N.2.1 77 43).toInt) (B := 1) rfl rfl (by omega) (fun v163 e164 => ?_)
            refine s_pI (pc := 115) rw_218_115 hG rfl (fun M166 W165 => ?_)
            have hG167 := g_w hG W165 (A := v163.toInt) rfl (lo := 0) (hi := 3000) rfl rfl (by omega) (by decide)
            have F168 := FR.w F0 W165 (show 77 = 77 ∧ (43 = 42 ∨ 43 = 43) ∨ 94 ≤ 77 ∧ 77 ≤ 98 ∨ 77 = 99 ∨ 77 = 100 ∨ 77 = 109 ∨ 77 = 110 ∨ 77 = 111 by decide)
            refine to_an (pc := 118) rw_218_118 rfl ?_
            refine s_gR (pc := 119) rw_218_119 hG167 rfl (v := 101) rfl ?_
            refine to_in (pc := 122) rw_218_122 rfl ?_
            refine s_ial (pc := 123) rw_218_123 hG167 rfl (n := 40) rfl rfl (A := x2.toInt) rfl (by omega) (by omega) (lo := 0) (hi := 2) rfl rfl (fun v169 w_170 _ _ => ?_)
            have c_171 : M166.2.1 77 44 = (N.2.1 77 44) := (W_n W165 (by decide) rfl)
            have t_172 : (M166.2.1 77 44).toInt = (N.2.1 77 44).toInt := congrArg Int32.toInt c_171
            have j_174 := (AB_f (fun a i z => W_n W165 (by /-r77,43-/ omega) rfl) g8)
            have s_173 := AB_u (A := x2.toInt) j_174 (by omega) (by omega) (by omega)
            have t_175 := congrArg Int32.toInt w_170
            have t_176 : (M166.2.1 101 (x2.toInt).toNat).toInt = (N.2.1 101 (x2.toInt).toNat).toInt := congrArg Int32.toInt (W_n W165 (by omega) rfl)
            have t_177 : (M166.2.1 102 (x2.toInt).toNat).toInt = (N.2.1 102 (x2.toInt).toNat).toInt := congrArg Int32.toInt (W_n W165 (by omega) rfl)
            have t_178 : (M166.2.1 103 (x2.toInt).toNat).toInt = (N.2.1 103 (x2.toInt).toNat).toInt := congrArg Int32.toInt (W_n W165 (by omega) rfl)
            have t_179 : (M166.2.1 104 (x2.toInt).toNat).toInt = (N.2.1 104 (x2.toInt).toNat).toInt := congrArg Int32.toInt (W_n W165 (by omega) rfl)
            refine b_ine (pc := 124) rw_218_124 (A := v169.toInt) rfl (fun h180 => ?_) (fun h180 => ?_)
            · refine to_an (pc := 132) rw_218_132 rfl ?_
              refine s_gR (pc := 133) rw_218_133 hG167 rfl (v := 101) rfl ?_
              refine to_in (pc := 136) rw_218_136 rfl ?_
              refine s_ialk (pc := 137) rw_218_137 hG167 rfl (n := 40) rfl rfl (A := x2.toInt) rfl (by omega) (by omega) (v := v169) w_170 ?_
              refine to_c (pc := 138) rw_218_138 (x := (1 : Int32)) rfl rfl ?_
              refine b_cne (pc := 139) rw_218_139 (A := v169.toInt) (B := 1) rfl rfl (fun h183 => ?_) (fun h183 => ?_)
              · refine to_an (pc := 147) rw_218_147 rfl ?_
                refine s_gR (pc := 148) rw_218_148 hG167 rfl (v := 101) rfl ?_
                refine to_in (pc := 151) rw_218_151 rfl ?_
                refine s_ialk (pc := 152) rw_218_152 hG167 rfl (n := 40) rfl rfl (A := x2.toInt) rfl (by omega) (by omega) (v := v169) w_170 ?_
                refine to_c (pc := 153) rw_218_153 (x := (2 : Int32)) rfl rfl ?_
                refine b_cge_t (pc := 154) rw_218_154 (A := v169.toInt) (B := 2) rfl rfl (by omega) ?_
                refine to_an (pc := 163) rw_218_163 rfl ?_
                refine s_gR (pc := 164) rw_218_164 hG167 rfl (v := 102) rfl ?_
                refine to_in (pc := 167) rw_218_167 rfl ?_
                refine s_ial (pc := 168) rw_218_168 hG167 rfl (n := 40) rfl rfl (A := x2.toInt) rfl (by omega) (by omega) (lo := -1) (hi := 99) rfl rfl (fun v186 w_187 _ _ => ?_)
                have t_188 := congrArg Int32.toInt w_187
                have s_189 := DK_le g6 (by omega) (by omega) (by have z : N.2.1 101 (x2.toInt).toNat = v169 := (((W_n W165 (by omega) rfl)).symm.trans w_170); rw [z]; omega) (Or.inr (by rw [show (x1.toInt).toNat - 1 = (v152.toInt).toNat by omega, w_155, w_159]; omega))
                refine b_ine (pc := 169) rw_218_169 (A := v186.toInt) rfl (fun h190 => ?_) (fun h190 => ?_)
                · refine to_an (pc := 182) rw_218_182 rfl ?_
                  refine s_gR (pc := 183) rw_218_183 hG167 rfl (v := 110) rfl ?_
                  refine to_in (pc := 186) rw_218_186 rfl ?_
                  refine to_in (pc := 187) rw_218_187 rfl ?_
                  refine s_ias (pc := 188) rw_218_188 hG167 rfl (n := 5) rfl (A := x1.toInt) rfl (by omega) (by omega) (fun M192 W191 => ?_)
                  have hG193 := g_w hG167 W191 (A := x2.toInt) rfl (lo := 0) (hi := 39) rfl rfl (by omega) (by decide)
                  have F194 := FR.w F168 W191 (show 110 = 77 ∧ ((x1.toInt).toNat = 42 ∨ (x1.toInt).toNat = 43) ∨ 94 ≤ 110 ∧ 110 ≤ 98 ∨ 110 = 99 ∨ 110 = 100 ∨ 110 = 109 ∨ 110 = 110 ∨ 110 = 111 by omega)
                  refine to_an (pc := 189) rw_218_189 rfl ?_
                  refine s_gR (pc := 190) rw_218_190 hG193 rfl (v := 111) rfl ?_
                  refine to_in (pc := 193) rw_218_193 rfl ?_
                  refine to_an (pc := 194) rw_218_194 rfl ?_
                  refine s_gR (pc := 195) rw_218_195 hG193 rfl (v := 102) rfl ?_
                  refine to_in (pc := 198) rw_218_198 rfl ?_
                  refine s_ialk (pc := 199) rw_218_199 hG193 rfl (n := 40) rfl rfl (A := x2.toInt) rfl (by omega) (by omega) (v := v186) (W_n W191 (by omega) w_187) ?_
                  refine s_ias (pc := 200) rw_218_200 hG193 rfl (n := 5) rfl (A := x1.toInt) rfl (by omega) (by omega) (fun M198 W197 => ?_)
                  have hG199 := g_w hG193 W197 (A := v186.toInt) rfl (lo := 0) (hi := 99) rfl rfl (by omega) (by decide)
                  have F200 := FR.w F194 W197 (show 111 = 77 ∧ ((x1.toInt).toNat = 42 ∨ (x1.toInt).toNat = 43) ∨ 94 ≤ 111 ∧ 111 ≤ 98 ∨ 111 = 99 ∨ 111 = 100 ∨ 111 = 109 ∨ 111 = 110 ∨ 111 = 111 by omega)
                  refine s_inc (pc := 201) rw_218_201 (ls2 := fun v => [.ref 77, .int v, .int x2]) rfl rfl (fun _ => rfl) (A := x1.toInt) (B := 1) rfl rfl (by omega) (fun v201 e202 => ?_)
                  refine s_inc (pc := 204) rw_218_204 (ls2 := fun v => [.ref 77, .int v201, .int v]) rfl rfl (fun _ => rfl) (A := x2.toInt) (B := 1) rfl rfl (by omega) (fun v203 e204 => ?_)
                  refine to_go (pc := 207) rw_218_207 ?_
                  have c_205 : M198.2.1 77 44 = (N.2.1 77 44) := (W_n W197 (fun z => absurd z.1 (by decide)) (W_n W191 (fun z => absurd z.1 (by decide)) c_171))
                  have t_206 : (M198.2.1 77 44).toInt = (N.2.1 77 44).toInt := congrArg Int32.toInt c_205
                  have s_207 : LSm M198 (v201.toInt).toNat = LSm M198 ((x1.toInt).toNat + 1) := by rw [show (v201.toInt).toNat = (x1.toInt).toNat + 1 by omega]
                  have s_208 := LSm_s (M := M198) (x1.toInt).toNat
                  have s_209 : LSm M198 (x1.toInt).toNat = LSm N (x1.toInt).toNat := LSm_f _ (fun i z => (W_n W197 (by omega) (W_n W191 (by omega) (W_n W165 (by omega) rfl))))
                  have s_210 : (M198.2.1 111 (x1.toInt).toNat).toInt = v186.toInt := by rw [show (x1.toInt).toNat = (x1.toInt).toNat by omega]; exact congrArg Int32.toInt (W_e W197)
                  have j_211 := (AB_f (fun a i z => W_n W197 (by /-r111-/ omega) rfl) (AB_f (fun a i z => W_n W191 (by /-r110-/ omega) rfl) j_174))
                  have c_212 : M198.2.1 77 11 = (N.2.1 77 11) := (W_n W197 (fun z => absurd z.1 (by decide)) (W_n W191 (fun z => absurd z.1 (by decide)) (W_n W165 (by decide) rfl)))
                  have t_213 : (M198.2.1 77 11).toInt = (N.2.1 77 11).toInt := congrArg Int32.toInt c_212
                  have c_214 : M198.2.1 77 42 = (N.2.1 77 42) := (W_n W197 (fun z => absurd z.1 (by decide)) (W_n W191 (fun z => absurd z.1 (by decide)) (W_n W165 (by decide) rfl)))
                  have t_215 : (M198.2.1 77 42).toInt = (N.2.1 77 42).toInt := congrArg Int32.toInt c_214
                  have c_216 : M198.2.1 77 43 = v163 := (W_n W197 (fun z => absurd z.1 (by decide)) (W_n W191 (fun z => absurd z.1 (by decide)) (W_e W165)))
                  have t_217 : (M198.2.1 77 43).toInt = v163.toInt := congrArg Int32.toInt c_216
                  have j_218 := (PLk_f (fun a i z => W_n W197 (tg_241 a i _ z) rfl) (PLk_f (fun a i z => W_n W191 (tg_242 a i _ z) rfl) (PLk_f (fun a i z => W_n W165 (tg_243 a i z) rfl) g12)))
                  have kn_219 : KST M198 96 98 97 95 ca sg (x_kn sg NN nz.toNat) := KST_f (fun i => (W_j W197 (W_j W191 (W_j W165 rfl)))) (fun i => (W_n W197 (by omega) (W_n W191 (by omega) (W_n W165 (by omega) rfl)))) (fun i => (W_n W197 (by omega) (W_n W191 (by omega) (W_n W165 (by omega) rfl)))) (fun i => (W_j W197 (W_j W191 (W_j W165 rfl)))) g14
                  exact ih M198 v201 v203 hG199 F200 (by omega) (by omega) (by omega) (by omega) (by omega) (by rw [show (v201.toInt).toNat = (x1.toInt).toNat + 1 by omega, show v203.toInt = x2.toInt + 1 by omega]; exact DK_push g6 (by omega) (by omega) (by have z : N.2.1 101 (x2.toInt).toNat = v169 := (((W_n W165 (by omega) rfl)).symm.trans w_170); rw [z]; omega) (Or.inr (by rw [show (x1.toInt).toNat - 1 = (v152.toInt).toNat by omega, w_155, w_159]; omega)) (fun r i z => (W_n W197 (by omega) (W_n W191 (by omega) (W_n W165 (by omega) rfl)))) (by rw [(W_n W197 (by omega) (W_e W191))] <;> omega)) (fun i z => by
                      by_cases ei : i = (x1.toInt).toNat
                      · rw [ei]; omega
                      · rw [(W_n W197 (by omega) (W_n W191 (by omega) (W_n W165 (by omega) rfl)))]; exact g7 i (by omega)) j_211 (by omega) (by omega) (by omega) j_218 (((W_n W197 (by omega) (W_n W191 (by omega) (W_n W165 (by omega) rfl)))).trans g13) kn_219 (WKr_f (fun a i z => (W_n W197 (by /-r111-/ omega) (W_n W191 (by /-r110-/ omega) (W_n W165 (by /-r77,43-/ omega) rfl)))) (fun i => (W_j W197 (W_j W191 (W_j W165 rfl)))) g15) ⟨Pn, (PKr_f (fun a i z => (W_n W197 (by /-r111-/ omega) (W_n W191 (by /-r110-/ omega) (W_n W165 (by /-r77,43-/ omega) rfl)))) pn1), pn2, RNK_a1 pn3 g15 (Or.inr (by rw [show (x1.toInt).toNat - 1 = (v152.toInt).toNat by omega, w_155, w_159]; omega)) (by omega) (by omega) (by omega) (by rw [(show N.2.1 101 (x2.toInt).toNat = v169 from (((W_n W165 (by omega) rfl)).symm.trans w_170))]; omega) (by rw [(show N.2.1 102 (x2.toInt).toNat = v186 from (((W_n W165 (by omega) rfl)).symm.trans w_187))]; omega) (fun i hi => ⟨(W_n W197 (by omega) (W_n W191 (by omega) (W_n W165 (by omega) rfl))), (W_n W197 (by omega) (W_n W191 (by omega) (W_n W165 (by omega) rfl)))⟩) (by rw [show (x1.toInt).toNat = (x1.toInt).toNat by omega, show M198.2.1 110 (x1.toInt).toNat = x2 from (W_n W197 (by omega) (W_e W191))] <;> omega) (by rw [show (x1.toInt).toNat = (x1.toInt).toNat by omega, show M198.2.1 111 (x1.toInt).toNat = v186 from (W_e W197), (show N.2.1 102 (x2.toInt).toNat = v186 from (((W_n W165 (by omega) rfl)).symm.trans w_187))]) (by omega) (by omega) (by omega) (by omega)⟩ (by omega)
                · refine to_an (pc := 172) rw_218_172 rfl ?_
                  refine s_gR (pc := 173) rw_218_173 hG167 rfl (v := 105) rfl ?_
                  refine to_in (pc := 176) rw_218_176 rfl ?_
                  refine s_ial (pc := 177) rw_218_177 hG167 rfl (n := 40) rfl rfl (A := x2.toInt) rfl (by omega) (by omega) (lo := 0) (hi := 40) rfl rfl (fun v220 w_221 _ _ => ?_)
                  have t_222 := congrArg Int32.toInt w_221
                  have s_223 := DK_skip g6 (by omega) (by omega) (by have z : N.2.1 101 (x2.toInt).toNat = v169 := (((W_n W165 (by omega) rfl)).symm.trans w_170); rw [z]; omega) (Or.inr (by rw [show (x1.toInt).toNat - 1 = (v152.toInt).toNat by omega, w_155, w_159]; omega))
                  have s_224 := s_223.2
                  rw [(((W_n W165 (by omega) rfl)).symm.trans w_221)] at s_224
                  refine to_isn (pc := 178) rw_218_178 (ls2 := [.ref 77, .int x1, .int v220]) rfl rfl ?_
                  refine to_go (pc := 179) rw_218_179 ?_
                  have s_226 : LSm M166 (x1.toInt).toNat = LSm N (x1.toInt).toNat := LSm_f _ (fun i z => (W_n W165 (by omega) rfl))
                  have c_227 : M166.2.1 77 11 = (N.2.1 77 11) := (W_n W165 (by decide) rfl)
                  have t_228 : (M166.2.1 77 11).toInt = (N.2.1 77 11).toInt := congrArg Int32.toInt c_227
                  have c_229 : M166.2.1 77 42 = (N.2.1 77 42) := (W_n W165 (by decide) rfl)
                  have t_230 : (M166.2.1 77 42).toInt = (N.2.1 77 42).toInt := congrArg Int32.toInt c_229
                  have c_231 : M166.2.1 77 43 = v163 := (W_e W165)
                  have t_232 : (M166.2.1 77 43).toInt = v163.toInt := congrArg Int32.toInt c_231
                  have j_233 := (PLk_f (fun a i z => W_n W165 (tg_243 a i z) rfl) g12)
                  have kn_234 : KST M166 96 98 97 95 ca sg (x_kn sg NN nz.toNat) := KST_f (fun i => (W_j W165 rfl)) (fun i => (W_n W165 (by omega) rfl)) (fun i => (W_n W165 (by omega) rfl)) (fun i => (W_j W165 rfl)) g14
                  exact ih M166 x1 v220 hG167 F168 (by omega) (by omega) (by omega) (by omega) (by omega) (DK_f (fun r i z => (W_n W165 (by omega) rfl)) (by have z := (s_223).1; rw [(((W_n W165 (by omega) rfl)).symm.trans w_221)] at z; exact z)) (fun i z => by rw [(W_n W165 (by omega) rfl)]; exact g7 i z) j_174 (by omega) (by omega) (by omega) j_233 (((W_n W165 (by omega) rfl)).trans g13) kn_234 (WKr_f (fun a i z => (W_n W165 (by /-r77,43-/ omega) rfl)) (fun i => (W_j W165 rfl)) g15) ⟨Pn, (PKr_f (fun a i z => (W_n W165 (by /-r77,43-/ omega) rfl)) pn1), pn2, RNK_a0 pn3 g15 (Or.inr (by rw [show (x1.toInt).toNat - 1 = (v152.toInt).toNat by omega, w_155, w_159]; omega)) (by omega) (by omega) (by omega) (by rw [(show N.2.1 101 (x2.toInt).toNat = v169 from (((W_n W165 (by omega) rfl)).symm.trans w_170))]; omega) (by rw [(show N.2.1 102 (x2.toInt).toNat = v186 from (((W_n W165 (by omega) rfl)).symm.trans w_187))]; omega) (fun r i z => (W_n W165 (by omega) rfl)) (by omega) (by omega) (by rw [show N.2.1 105 (x2.toInt).toNat = v220 from (((W_n W165 (by omega) rfl)).symm.trans w_221)]) (by omega)⟩ (by omega)
              · refine to_an (pc := 142) rw_218_142 rfl ?_
                refine to_in (pc := 143) rw_218_143 rfl ?_
                refine s_v (pc := 144) rw_218_144 (dp0 hd (by decide)) (ls0 := [.ref 77, .int x2, .null, .null]) rfl (Nat.le_of_ble_eq_true rfl) (Nat.le_of_ble_eq_true rfl) rfl (to_rc rfl rfl rfl (g_o hG167 rfl)) rfl ?_
                have z_235 := (WKr_f (fun a i z => (W_n W165 (by /-r77,43-/ omega) rfl)) (fun i => (W_j W165 rfl)) g15) ((x2.toInt).toNat) (by omega)
                have z_236 : A9.1 ((x2.toInt).toNat) = 1 := (z_235.2.1).symm.trans (by rw [(show M166.2.1 101 ((x2.toInt).toNat) = v169 from ((W_n W165 (by omega) rfl)).trans (((W_n W165 (by omega) rfl)).symm.trans w_170))]; omega)
                have z_237 := (q7 ((x2.toInt).toNat) (by omega)).2 z_236
                have z_238 : 0 ≤ (D8 (A9.2.1 ((x2.toInt).toNat))).1 ∧ (D8 (A9.2.1 ((x2.toInt).toNat))).1 ≤ 5 ∧ 0 ≤ (D8 (A9.2.1 ((x2.toInt).toNat))).2.1 ∧ (D8 (A9.2.1 ((x2.toInt).toNat))).2.1 ≤ 5 ∧ ¬ (D8 (A9.2.1 ((x2.toInt).toNat))).1 = (D8 (A9.2.1 ((x2.toInt).toNat))).2.1 := z_237
                have z_239 : (M166.2.1 102 ((x2.toInt).toNat)).toInt = (D8 (A9.2.1 ((x2.toInt).toNat))).1 ∧ (M166.2.1 103 ((x2.toInt).toNat)).toInt = (D8 (A9.2.1 ((x2.toInt).toNat))).2.1 := ⟨(z_235.2.2.2.2.2 z_236).1, (z_235.2.2.2.2.2 z_236).2⟩
                have t_240 : (M166.2.1 102 (x2.toInt).toNat).toInt = (N.2.1 102 (x2.toInt).toNat).toInt := congrArg Int32.toInt (W_n W165 (by omega) rfl)
                have t_241 : (M166.2.1 103 (x2.toInt).toNat).toInt = (N.2.1 103 (x2.toInt).toNat).toInt := congrArg Int32.toInt (W_n W165 (by omega) rfl)
                have j_242 := (PKr_f (fun a i z => W_n W165 (by /-r77,43-/ omega) rfl) pn1)
                refine E_217 hX (dp1 hd (by decide)) hG167 (by omega) (by omega) (by omega) (by omega) (by omega) (by omega) (by omega) (by omega) (by omega) (by omega) (by omega) j_242 pn2 (a := x2) (P9 := Pn) (ca := ca) (n9 := ca) (o9 := (D8 (A9.2.1 ((x2.toInt).toNat))).1) (t9 := (D8 (A9.2.1 ((x2.toInt).toNat))).2.1) (fun M246 hG244 F243 p_245 => ?_)
                have F247 := FR.c F168 F243 tg_238
                have c_248 : M246.2.1 77 42 = (N.2.1 77 42) := (F_n F243 (show ¬ (77 = 99 ∨ 77 = 100) by decide) (W_n W165 (by decide) rfl))
                have t_249 : (M246.2.1 77 42).toInt = (N.2.1 77 42).toInt := congrArg Int32.toInt c_248
                have c_250 : M246.2.1 77 43 = v163 := (F_n F243 (show ¬ (77 = 99 ∨ 77 = 100) by decide) (W_e W165))
                have t_251 : (M246.2.1 77 43).toInt = v163.toInt := congrArg Int32.toInt c_250
                refine to_an (pc := 147) rw_218_147 rfl ?_
                refine s_gR (pc := 148) rw_218_148 hG244 rfl (v := 101) rfl ?_
                refine to_in (pc := 151) rw_218_151 rfl ?_
                refine s_ialk (pc := 152) rw_218_152 hG244 rfl (n := 40) rfl rfl (A := x2.toInt) rfl (by omega) (by omega) (v := v169) (F_n F243 (show ¬ (101 = 99 ∨ 101 = 100) by decide) w_170) ?_
                refine to_c (pc := 153) rw_218_153 (x := (2 : Int32)) rfl rfl ?_
                refine b_cge_f (pc := 154) rw_218_154 (A := v169.toInt) (B := 2) rfl rfl (by omega) ?_
                refine s_inc (pc := 157) rw_218_157 (ls2 := fun v => [.ref 77, .int x1, .int v]) rfl rfl (fun _ => rfl) (A := x2.toInt) (B := 1) rfl rfl (by omega) (fun v254 e255 => ?_)
                refine to_go (pc := 160) rw_218_160 ?_
                have c_256 : M246.2.1 77 44 = (N.2.1 77 44) := (F_n F243 (show ¬ (77 = 99 ∨ 77 = 100) by decide) c_171)
                have t_257 : (M246.2.1 77 44).toInt = (N.2.1 77 44).toInt := congrArg Int32.toInt c_256
                have s_258 : LSm M246 (x1.toInt).toNat = LSm N (x1.toInt).toNat := LSm_f _ (fun i z => (F_n F243 (show ¬ (111 = 99 ∨ 111 = 100) by decide) (W_n W165 (by omega) rfl)))
                have j_259 := (AB_f (tg_232 F243) j_174)
                have c_260 : M246.2.1 77 11 = (N.2.1 77 11) := (F_n F243 (show ¬ (77 = 99 ∨ 77 = 100) by decide) (W_n W165 (by decide) rfl))
                have t_261 : (M246.2.1 77 11).toInt = (N.2.1 77 11).toInt := congrArg Int32.toInt c_260
                have j_262 := (PLk_f (tg_233 F243) (PLk_f (fun a i z => W_n W165 (tg_243 a i z) rfl) g12))
                have kn_263 : KST M246 96 98 97 95 ca sg (x_kn sg NN nz.toNat) := KST_f (fun i => (F_nl F243 (show ¬ (96 = 99 ∨ 96 = 100) by decide) (W_j W165 rfl))) (fun i => (F_n F243 (show ¬ (98 = 99 ∨ 98 = 100) by decide) (W_n W165 (by omega) rfl))) (fun i => (F_n F243 (show ¬ (97 = 99 ∨ 97 = 100) by decide) (W_n W165 (by omega) rfl))) (fun i => (F_nl F243 (show ¬ (95 = 99 ∨ 95 = 100) by decide) (W_j W165 rfl))) g14
                exact ih M246 x1 v254 hG244 F247 (by omega) (by omega) (by omega) (by omega) (by omega) (by rw [show v254.toInt = x2.toInt + 1 by omega]; exact (DK_f (fun r i z => (F_n F243 (show ¬ (r = 99 ∨ r = 100) by omega) (W_n W165 (by omega) rfl))) (DK_next g6 (Or.inr (by rw [show (x1.toInt).toNat - 1 = (v152.toInt).toNat by omega, w_155, w_159]; omega))))) (fun i z => by rw [(F_n F243 (show ¬ (111 = 99 ∨ 111 = 100) by decide) (W_n W165 (by omega) rfl))]; exact g7 i z) j_259 (by omega) (by omega) (by omega) j_262 (((F_n F243 (show ¬ (77 = 99 ∨ 77 = 100) by decide) (W_n W165 (by omega) rfl))).trans g13) kn_263 (WKr_f (fun a i z => (F_n F243 (show ¬ (a = 99 ∨ a = 100) by omega) (W_n W165 (by /-r77,43-/ omega) rfl))) (fun i => (F_nl F243 (show ¬ (106 = 99 ∨ 106 = 100) by decide) (W_j W165 rfl))) g15) ⟨_, p_245, x_pg_dl pn2 (by omega) (by omega) (by omega) (by omega) (by omega) (by omega), RNK_1 pn3 g15 (Or.inr (by rw [show (x1.toInt).toNat - 1 = (v152.toInt).toNat by omega, w_155, w_159]; omega)) (by omega) (by omega) (by omega) (Or.inr z_236) (fun r i z => (F_n F243 (show ¬ (r = 99 ∨ r = 100) by omega) (W_n W165 (by omega) rfl))) (by omega) (x_U_1 z_236 (by omega) rfl) (by omega) (by omega)⟩ (by omega)
            · refine to_an (pc := 127) rw_218_127 rfl ?_
              refine to_in (pc := 128) rw_218_128 rfl ?_
              refine s_v (pc := 129) rw_218_129 (dp0 hd (by decide)) (ls0 := [.ref 77, .int x2, .null, .null, .null, .null, .null]) rfl (Nat.le_of_ble_eq_true rfl) (Nat.le_of_ble_eq_true rfl) rfl (to_rc rfl rfl rfl (g_o hG167 rfl)) rfl ?_
              have c_264 : M166.2.1 77 42 = (N.2.1 77 42) := (W_n W165 (by decide) rfl)
              have t_265 : (M166.2.1 77 42).toInt = (N.2.1 77 42).toInt := congrArg Int32.toInt c_264
              have z_266 := (WKr_f (fun a i z => (W_n W165 (by /-r77,43-/ omega) rfl)) (fun i => (W_j W165 rfl)) g15) ((x2.toInt).toNat) (by omega)
              have z_267 : A9.1 ((x2.toInt).toNat) = 0 := (z_266.2.1).symm.trans (by rw [(show M166.2.1 101 ((x2.toInt).toNat) = v169 from ((W_n W165 (by omega) rfl)).trans (((W_n W165 (by omega) rfl)).symm.trans w_170))]; omega)
              have z_268 := (q7 ((x2.toInt).toNat) (by omega)).1 z_267
              have z_269 : 0 ≤ (D8 (A9.2.1 ((x2.toInt).toNat))).1 ∧ (D8 (A9.2.1 ((x2.toInt).toNat))).1 ≤ 5 ∧ 0 ≤ (D8 (A9.2.1 ((x2.toInt).toNat))).2.1 ∧ (D8 (A9.2.1 ((x2.toInt).toNat))).2.1 ≤ 5 ∧ 0 ≤ (D8 (A9.2.1 ((x2.toInt).toNat))).2.2.1 ∧ (D8 (A9.2.1 ((x2.toInt).toNat))).2.2.1 ≤ 5 := z_268.1
              have z_270 : (M166.2.1 102 ((x2.toInt).toNat)).toInt = (D8 (A9.2.1 ((x2.toInt).toNat))).1 ∧ (M166.2.1 103 ((x2.toInt).toNat)).toInt = (D8 (A9.2.1 ((x2.toInt).toNat))).2.1 ∧ (M166.2.1 104 ((x2.toInt).toNat)).toInt = (D8 (A9.2.1 ((x2.toInt).toNat))).2.2.1 := ⟨(z_266.2.2.2.2.1 z_267).1, (z_266.2.2.2.2.1 z_267).2.1, (z_266.2.2.2.2.1 z_267).2.2.1⟩
              have t_271 : (M166.2.1 102 (x2.toInt).toNat).toInt = (N.2.1 102 (x2.toInt).toNat).toInt := congrArg Int32.toInt (W_n W165 (by omega) rfl)
              have t_272 : (M166.2.1 103 (x2.toInt).toNat).toInt = (N.2.1 103 (x2.toInt).toNat).toInt := congrArg Int32.toInt (W_n W165 (by omega) rfl)
              have t_273 : (M166.2.1 104 (x2.toInt).toNat).toInt = (N.2.1 104 (x2.toInt).toNat).toInt := congrArg Int32.toInt (W_n W165 (by omega) rfl)
              have c_274 : M166.2.1 77 11 = (N.2.1 77 11) := (W_n W165 (by decide) rfl)
              have t_275 : (M166.2.1 77 11).toInt = (N.2.1 77 11).toInt := congrArg Int32.toInt c_274
              have j_276 := (PLk_f (fun a i z => W_n W165 (tg_243 a i z) rfl) g12)
              have kn_277 : KST M166 96 98 97 95 ca sg (x_kn sg NN nz.toNat) := KST_f (fun i => (W_j W165 rfl)) (fun i => (W_n W165 (by omega) rfl)) (fun i => (W_n W165 (by omega) rfl)) (fun i => (W_j W165 rfl)) g14
              have j_278 := (PKr_f (fun a i z => W_n W165 (by /-r77,43-/ omega) rfl) pn1)
              refine E_216 hX (dp1 hd (by decide)) hG167 (by omega) (by omega) (by omega) (by omega) (by omega) (by omega) (by omega) (by omega) (by omega) (by omega) (by omega) (by omega) (by omega) (by omega) (by omega) (((W_n W165 (by omega) rfl)).trans g13) j_276 kn_277 j_278 pn2 z_268.2 (z_266.2.2.2.2.1 z_267).2.2.2 (a := x2) (P9 := Pn) (sg := sg) (K := (x_kn sg NN nz.toNat)) (ca := ca) (ov := ov) (ho := sg.1) (n9 := ca) (nd9 := (D8 (A9.2.1 ((x2.toInt).toNat))).2.2.2) (f9 := (D8 (A9.2.1 ((x2.toInt).toNat))).1) (d9 := (D8 (A9.2.1 ((x2.toInt).toNat))).2.1) (l9 := (D8 (A9.2.1 ((x2.toInt).toNat))).2.2.1) (fun M283 hG280 F279 p_281 p_282 => ?_)
              have F284 := FR.c F168 F279 tg_239
              have c_285 : M283.2.1 77 43 = v163 := (F_n F279 (show ¬ (77 = 77 ∧ 43 = 42 ∨ 77 = 99 ∨ 77 = 100 ∨ 77 = 109) by decide) (W_e W165))
              have t_286 : (M283.2.1 77 43).toInt = v163.toInt := congrArg Int32.toInt c_285
              refine to_an (pc := 132) rw_218_132 rfl ?_
              refine s_gR (pc := 133) rw_218_133 hG280 rfl (v := 101) rfl ?_
              refine to_in (pc := 136) rw_218_136 rfl ?_
              refine s_ialk (pc := 137) rw_218_137 hG280 rfl (n := 40) rfl rfl (A := x2.toInt) rfl (by omega) (by omega) (v := v169) (F_n F279 (show ¬ (101 = 77 ∧ (x2.toInt).toNat = 42 ∨ 101 = 99 ∨ 101 = 100 ∨ 101 = 109) by omega) w_170) ?_
              refine to_c (pc := 138) rw_218_138 (x := (1 : Int32)) rfl rfl ?_
              refine b_cne_t (pc := 139) rw_218_139 (A := v169.toInt) (B := 1) rfl rfl (by omega) ?_
              refine to_an (pc := 147) rw_218_147 rfl ?_
              refine s_gR (pc := 148) rw_218_148 hG280 rfl (v := 101) rfl ?_
              refine to_in (pc := 151) rw_218_151 rfl ?_
              refine s_ialk (pc := 152) rw_218_152 hG280 rfl (n := 40) rfl rfl (A := x2.toInt) rfl (by omega) (by omega) (v := v169) (F_n F279 (show ¬ (101 = 77 ∧ (x2.toInt).toNat = 42 ∨ 101 = 99 ∨ 101 = 100 ∨ 101 = 109) by omega) w_170) ?_
              refine to_c (pc := 153) rw_218_153 (x := (2 : Int32)) rfl rfl ?_
              refine b_cge_f (pc := 154) rw_218_154 (A := v169.toInt) (B := 2) rfl rfl (by omega) ?_
              refine s_inc (pc := 157) rw_218_157 (ls2 := fun v => [.ref 77, .int x1, .int v]) rfl rfl (fun _ => rfl) (A := x2.toInt) (B := 1) rfl rfl (by omega) (fun v291 e292 => ?_)
              refine to_go (pc := 160) rw_218_160 ?_
              have c_293 : M283.2.1 77 44 = (N.2.1 77 44) := (F_n F279 (show ¬ (77 = 77 ∧ 44 = 42 ∨ 77 = 99 ∨ 77 = 100 ∨ 77 = 109) by decide) c_171)
              have t_294 : (M283.2.1 77 44).toInt = (N.2.1 77 44).toInt := congrArg Int32.toInt c_293
              have s_295 : LSm M283 (x1.toInt).toNat = LSm N (x1.toInt).toNat := LSm_f _ (fun i z => (F_n F279 (show ¬ (111 = 77 ∧ i = 42 ∨ 111 = 99 ∨ 111 = 100 ∨ 111 = 109) by omega) (W_n W165 (by omega) rfl)))
              have j_296 := (AB_f (tg_234 F279) j_174)
              have c_297 : M283.2.1 77 11 = (N.2.1 77 11) := (F_n F279 (show ¬ (77 = 77 ∧ 11 = 42 ∨ 77 = 99 ∨ 77 = 100 ∨ 77 = 109) by decide) c_274)
              have t_298 : (M283.2.1 77 11).toInt = (N.2.1 77 11).toInt := congrArg Int32.toInt c_297
              have j_299 := (PLk_f (tg_235 F279) j_276)
              have kn_300 : KST M283 96 98 97 95 ca sg (x_kn sg NN nz.toNat) := KST_f (fun i => (F_nl F279 (show ¬ (96 = 77 ∧ i = 42 ∨ 96 = 99 ∨ 96 = 100 ∨ 96 = 109) by omega) rfl)) (fun i => (F_n F279 (show ¬ (98 = 77 ∧ i = 42 ∨ 98 = 99 ∨ 98 = 100 ∨ 98 = 109) by omega) rfl)) (fun i => (F_n F279 (show ¬ (97 = 77 ∧ i = 42 ∨ 97 = 99 ∨ 97 = 100 ∨ 97 = 109) by omega) rfl)) (fun i => (F_nl F279 (show ¬ (95 = 77 ∧ i = 42 ∨ 95 = 99 ∨ 95 = 100 ∨ 95 = 109) by omega) rfl)) kn_277
              exact ih M283 x1 v291 hG280 F284 (by omega) (by omega) (by omega) (by omega) (by omega) (by rw [show v291.toInt = x2.toInt + 1 by omega]; exact (DK_f (fun r i z => (F_n F279 (show ¬ (r = 77 ∧ i = 42 ∨ r = 99 ∨ r = 100 ∨ r = 109) by omega) (W_n W165 (by omega) rfl))) (DK_next g6 (Or.inr (by rw [show (x1.toInt).toNat - 1 = (v152.toInt).toNat by omega, w_155, w_159]; omega))))) (fun i z => by rw [(F_n F279 (show ¬ (111 = 77 ∧ i = 42 ∨ 111 = 99 ∨ 111 = 100 ∨ 111 = 109) by omega) (W_n W165 (by omega) rfl))]; exact g7 i z) j_296 (by omega) (by omega) (by omega) j_299 (((F_n F279 (show ¬ (77 = 77 ∧ 41 = 42 ∨ 77 = 99 ∨ 77 = 100 ∨ 77 = 109) by decide) (W_n W165 (by omega) rfl))).trans g13) kn_300 (WKr_f (fun a i z => (F_n F279 (show ¬ (a = 77 ∧ i = 42 ∨ a = 99 ∨ a = 100 ∨ a = 109) by omega) (W_n W165 (by /-r77,43-/ omega) rfl))) (fun i => (F_nl F279 (show ¬ (106 = 77 ∧ i = 42 ∨ 106 = 99 ∨ 106 = 100 ∨ 106 = 109) by omega) (W_j W165 rfl))) g15) ⟨_, p_281, x_pg_dl pn2 (by omega) (by omega) (by omega) (by omega) (by omega) (by omega), RNK_1 pn3 g15 (Or.inr (by rw [show (x1.toInt).toNat - 1 = (v152.toInt).toNat by omega, w_155, w_159]; omega)) (by omega) (by omega) (by omega) (Or.inl z_267) (fun r i z => (F_n F279 (show ¬ (r = 77 ∧ i = 42 ∨ r = 99 ∨ r = 100 ∨ r = 109) by omega) (W_n W165 (by omega) rfl))) (by omega) (x_U_0 z_267 (by omega) rfl) (by omega) (by omega)⟩ (by omega)
          · refine to_c (pc := 106) rw_218_106 (x := (1 : Int32)) rfl rfl ?_
            refine to_r0 (pc := 107) rw_218_107 ?_
            have k_301 : (1 : Int32).toInt = 1 := rfl
            exact h (1 : Int32) N hG F0 (by decide) (by decide) ⟨Pn, pn1, pn2, RNK_e1 pn3 g15 (Or.inr (by rw [show (x1.toInt).toNat - 1 = (v152.toInt).toNat by omega, w_155, w_159]; omega)) (by omega) (by omega) (by omega)⟩
        · refine to_c (pc := 94) rw_218_94 (x := (0 : Int32)) rfl rfl ?_
          refine to_r0 (pc := 95) rw_218_95 ?_
          have k_302 : (0 : Int32).toInt = 0 := rfl
          exact h (0 : Int32) N hG F0 (by decide) (by decide) ⟨Pn, pn1, pn2, RNK_e0 pn3 g15 (Or.inr (by rw [show (x1.toInt).toNat - 1 = (v152.toInt).toNat by omega, w_155, w_159]; omega)) (by omega) (by omega)⟩
      · refine to_an (pc := 43) rw_218_43 rfl ?_
        refine s_gR (pc := 44) rw_218_44 hG rfl (v := 111) rfl ?_
        refine to_in (pc := 47) rw_218_47 rfl ?_
        refine to_c (pc := 48) rw_218_48 (x := (1 : Int32)) rfl rfl ?_
        refine s_subk (pc := 49) rw_218_49 (A := x1.toInt) (B := 1) rfl rfl (by omega) (v := v152) e153 ?_
        refine to_dup2 (pc := 50) rw_218_50 ?_
        refine s_ial (pc := 51) rw_218_51 hG rfl (n := 5) rfl rfl (A := v152.toInt) rfl (by omega) (by omega) (lo := 0) (hi := 99) rfl rfl (fun v305 w_306 _ _ => ?_)
        have t_307 := congrArg Int32.toInt w_306
        have s_308 := g7 (v152.toInt).toNat (by omega)
        rw [w_306] at s_308
        refine to_c (pc := 52) rw_218_52 (x := (1 : Int32)) rfl rfl ?_
        refine s_sub (pc := 53) rw_218_53 (A := v305.toInt) (B := 1) rfl rfl (by omega) (fun v309 e310 => ?_)
        refine s_ias (pc := 54) rw_218_54 hG rfl (n := 5) rfl (A := v152.toInt) rfl (by omega) (by omega) (fun M312 W311 => ?_)
        have hG313 := g_w hG W311 (A := v309.toInt) rfl (lo := 0) (hi := 99) rfl rfl (by omega) (by decide)
        have F314 := FR.w F0 W311 (show 111 = 77 ∧ ((v152.toInt).toNat = 42 ∨ (v152.toInt).toNat = 43) ∨ 94 ≤ 111 ∧ 111 ≤ 98 ∨ 111 = 99 ∨ 111 = 100 ∨ 111 = 109 ∨ 111 = 110 ∨ 111 = 111 by omega)
        refine to_an (pc := 55) rw_218_55 rfl ?_
        refine s_gR (pc := 56) rw_218_56 hG313 rfl (v := 111) rfl ?_
        refine to_in (pc := 59) rw_218_59 rfl ?_
        refine to_c (pc := 60) rw_218_60 (x := (1 : Int32)) rfl rfl ?_
        refine s_subk (pc := 61) rw_218_61 (A := x1.toInt) (B := 1) rfl rfl (by omega) (v := v152) e153 ?_
        refine s_ialk (pc := 62) rw_218_62 hG313 rfl (n := 5) rfl rfl (A := v152.toInt) rfl (by omega) (by omega) (v := v309) (W_e W311) ?_
        refine b_ile (pc := 63) rw_218_63 (A := v309.toInt) rfl (fun h319 => ?_) (fun h319 => ?_)
        · refine s_inc (pc := 80) rw_218_80 (ls2 := fun v => [.ref 77, .int v, .int x2]) rfl rfl (fun _ => rfl) (A := x1.toInt) (B := -1) rfl rfl (by omega) (fun v320 e321 => ?_)
          refine to_go (pc := 83) rw_218_83 ?_
          have c_322 : M312.2.1 77 44 = (N.2.1 77 44) := (W_n W311 (fun z => absurd z.1 (by decide)) rfl)
          have t_323 : (M312.2.1 77 44).toInt = (N.2.1 77 44).toInt := congrArg Int32.toInt c_322
          have s_324 : LSm N (x1.toInt).toNat = LSm N ((v152.toInt).toNat + 1) := by rw [show (x1.toInt).toNat = (v152.toInt).toNat + 1 by omega]
          have s_325 := LSm_s (M := N) (v152.toInt).toNat
          have s_326 : LSm M312 (v152.toInt).toNat = LSm N (v152.toInt).toNat := LSm_f _ (fun i z => (W_n W311 (by omega) rfl))
          have s_327 := g_b hG (a := 111) (i := (v152.toInt).toNat) (lo := 0) (hi := 99) rfl rfl
          have s_328 : LSm M312 (v320.toInt).toNat = LSm M312 (v152.toInt).toNat := by rw [show (v320.toInt).toNat = (v152.toInt).toNat by omega]
          have j_329 := (AB_f (fun a i z => W_n W311 (by /-r111-/ omega) rfl) g8)
          have c_330 : M312.2.1 77 11 = (N.2.1 77 11) := (W_n W311 (fun z => absurd z.1 (by decide)) rfl)
          have t_331 : (M312.2.1 77 11).toInt = (N.2.1 77 11).toInt := congrArg Int32.toInt c_330
          have c_332 : M312.2.1 77 42 = (N.2.1 77 42) := (W_n W311 (fun z => absurd z.1 (by decide)) rfl)
          have t_333 : (M312.2.1 77 42).toInt = (N.2.1 77 42).toInt := congrArg Int32.toInt c_332
          have c_334 : M312.2.1 77 43 = (N.2.1 77 43) := (W_n W311 (fun z => absurd z.1 (by decide)) rfl)
          have t_335 : (M312.2.1 77 43).toInt = (N.2.1 77 43).toInt := congrArg Int32.toInt c_334
          have j_336 := (PLk_f (fun a i z => W_n W311 (tg_241 a i _ z) rfl) g12)
          have kn_337 : KST M312 96 98 97 95 ca sg (x_kn sg NN nz.toNat) := KST_f (fun i => (W_j W311 rfl)) (fun i => (W_n W311 (by omega) rfl)) (fun i => (W_n W311 (by omega) rfl)) (fun i => (W_j W311 rfl)) g14
          exact ih M312 v320 x2 hG313 F314 (by omega) (by omega) (by omega) (by omega) (by omega) (by rw [show (v320.toInt).toNat = (v152.toInt).toNat by omega]; exact (DK_f (fun r i z => (W_n W311 (by omega) rfl)) (DK_pop s_156))) (fun i z => by rw [(W_n W311 (by omega) rfl)]; exact g7 i (by omega)) j_329 (by omega) (by omega) (by omega) j_336 (((W_n W311 (by omega) rfl)).trans g13) kn_337 (WKr_f (fun a i z => (W_n W311 (by /-r111-/ omega) rfl)) (fun i => (W_j W311 rfl)) g15) ⟨Pn, (PKr_f (fun a i z => (W_n W311 (by /-r111-/ omega) rfl)) pn1), pn2, RNK_lx (show RNK A9 (x_U D8 (x_dt (x_kn sg NN nz.toNat) ov sg.1) A9) n9 P9 N Pn x2.toInt ((v152.toInt).toNat + 1) from (by rw [show (v152.toInt).toNat + 1 = (x1.toInt).toNat by omega]; exact pn3)) g15 (by rw [w_155, w_159]; omega) (by rw [(show N.2.1 111 (v152.toInt).toNat = v305 from (by rw [show (v152.toInt).toNat = (v152.toInt).toNat by omega]; exact w_306))]; omega) (fun i => (W_n W311 (by omega) rfl)) (fun i hi => (W_n W311 (by omega) rfl)) (by omega) (by omega) (by omega) (by omega)⟩ (by omega)
        · refine to_an (pc := 66) rw_218_66 rfl ?_
          refine s_gR (pc := 67) rw_218_67 hG313 rfl (v := 110) rfl ?_
          refine to_in (pc := 70) rw_218_70 rfl ?_
          refine to_c (pc := 71) rw_218_71 (x := (1 : Int32)) rfl rfl ?_
          refine s_subk (pc := 72) rw_218_72 (A := x1.toInt) (B := 1) rfl rfl (by omega) (v := v152) e153 ?_
          refine s_ialk (pc := 73) rw_218_73 hG313 rfl (n := 5) rfl rfl (A := v152.toInt) rfl (by omega) (by omega) (v := v154) (W_n W311 (by omega) w_155) ?_
          refine to_c (pc := 74) rw_218_74 (x := (1 : Int32)) rfl rfl ?_
          refine s_add (pc := 75) rw_218_75 (A := v154.toInt) (B := 1) rfl rfl (by omega) (fun v342 e343 => ?_)
          refine to_isn (pc := 76) rw_218_76 (ls2 := [.ref 77, .int x1, .int v342]) rfl rfl ?_
          refine to_go (pc := 77) rw_218_77 ?_
          have c_344 : M312.2.1 77 44 = (N.2.1 77 44) := (W_n W311 (fun z => absurd z.1 (by decide)) rfl)
          have t_345 : (M312.2.1 77 44).toInt = (N.2.1 77 44).toInt := congrArg Int32.toInt c_344
          have s_346 : LSm N (x1.toInt).toNat = LSm N ((v152.toInt).toNat + 1) := by rw [show (x1.toInt).toNat = (v152.toInt).toNat + 1 by omega]
          have s_347 := LSm_s (M := N) (v152.toInt).toNat
          have s_348 : LSm M312 (v152.toInt).toNat = LSm N (v152.toInt).toNat := LSm_f _ (fun i z => (W_n W311 (by omega) rfl))
          have s_349 := g_b hG (a := 111) (i := (v152.toInt).toNat) (lo := 0) (hi := 99) rfl rfl
          have s_350 : LSm M312 (x1.toInt).toNat = LSm M312 ((v152.toInt).toNat + 1) := by rw [show (x1.toInt).toNat = (v152.toInt).toNat + 1 by omega]
          have s_351 := LSm_s (M := M312) (v152.toInt).toNat
          have s_352 : (M312.2.1 111 (v152.toInt).toNat).toInt = v309.toInt := by rw [show (v152.toInt).toNat = (v152.toInt).toNat by omega]; exact congrArg Int32.toInt (W_e W311)
          have j_353 := (AB_f (fun a i z => W_n W311 (by /-r111-/ omega) rfl) g8)
          have c_354 : M312.2.1 77 11 = (N.2.1 77 11) := (W_n W311 (fun z => absurd z.1 (by decide)) rfl)
          have t_355 : (M312.2.1 77 11).toInt = (N.2.1 77 11).toInt := congrArg Int32.toInt c_354
          have c_356 : M312.2.1 77 42 = (N.2.1 77 42) := (W_n W311 (fun z => absurd z.1 (by decide)) rfl)
          have t_357 : (M312.2.1 77 42).toInt = (N.2.1 77 42).toInt := congrArg Int32.toInt c_356
          have c_358 : M312.2.1 77 43 = (N.2.1 77 43) := (W_n W311 (fun z => absurd z.1 (by decide)) rfl)
          have t_359 : (M312.2.1 77 43).toInt = (N.2.1 77 43).toInt := congrArg Int32.toInt c_358
          have j_360 := (PLk_f (fun a i z => W_n W311 (tg_241 a i _ z) rfl) g12)
          have kn_361 : KST M312 96 98 97 95 ca sg (x_kn sg NN nz.toNat) := KST_f (fun i => (W_j W311 rfl)) (fun i => (W_n W311 (by omega) rfl)) (fun i => (W_n W311 (by omega) rfl)) (fun i => (W_j W311 rfl)) g14
          exact ih M312 x1 v342 hG313 F314 (by omega) (by omega) (by omega) (by omega) (by omega) (by rw [show (x1.toInt).toNat = (v152.toInt).toNat + 1 by omega]; exact (DK_f (fun r i z => (W_n W311 (by omega) rfl)) (DK_dec s_156 (by rw [w_155]; omega)))) (fun i z => by
              by_cases ei : i = (v152.toInt).toNat
              · rw [ei]; omega
              · rw [(W_n W311 (by omega) rfl)]; exact g7 i (by omega)) j_353 (by omega) (by omega) (by omega) j_360 (((W_n W311 (by omega) rfl)).trans g13) kn_361 (WKr_f (fun a i z => (W_n W311 (by /-r111-/ omega) rfl)) (fun i => (W_j W311 rfl)) g15) ⟨Pn, (PKr_f (fun a i z => (W_n W311 (by /-r111-/ omega) rfl)) pn1), pn2, RNK_lp (show RNK A9 (x_U D8 (x_dt (x_kn sg NN nz.toNat) ov sg.1) A9) n9 P9 N Pn x2.toInt ((v152.toInt).toNat + 1) from (by rw [show (v152.toInt).toNat + 1 = (x1.toInt).toNat by omega]; exact pn3)) g15 (by rw [w_155, w_159]; omega) (by rw [(show N.2.1 111 (v152.toInt).toNat = v305 from (by rw [show (v152.toInt).toNat = (v152.toInt).toNat by omega]; exact w_306))]; omega) (fun i => (W_n W311 (by omega) rfl)) (fun i hi => (W_n W311 (by omega) rfl)) (by rw [(show M312.2.1 111 (v152.toInt).toNat = v309 from (by rw [show (v152.toInt).toNat = (v152.toInt).toNat by omega]; exact (W_e W311))), (show N.2.1 111 (v152.toInt).toNat = v305 from (by rw [show (v152.toInt).toNat = (v152.toInt).toNat by omega]; exact w_306))]; omega) (by omega) (by omega) (by rw [w_155]; omega) (by omega)⟩ (by omega)
set_option maxRecDepth 4000 in
set_option maxHeartbeats 0 in
theorem E_218 {X : mm_X} {d : Nat} {M : mm_M} {Q : Option Value → mm_M → Prop} {sg : x_S} {NN : x_N} {nz : Int} {ca : Int} {D8 : Int → x_D} {A9 : x_A} {n9 : Int} {P9 : x_P} {ov : Int32} (hX : g_X X) (hd : 3 ≤ d) (hG : g_G M) (q1 : AB M) (q2 : ST M) (q3 : (M.2.1 77 52).toInt ≤ 0) (q4 : (M.2.1 77 44).toInt = n9) (q5 : (M.2.1 77 11).toInt = sg.1) (q6 : WKr (D8, (x_kn sg NN nz.toNat).2.2.2, sg.2.2.1) M A9 n9 []) (q7 : GDA D8 sg.1 A9 n9) (q8 : M.2.1 77 41 = ov) (q9 : PKr M P9) (q10 : x_pg P9 ca ca) (q11 : x_vn sg ca NN nz) (q12 : ca ≤ 30) (q13 : (M.2.1 77 29).toInt = nz) (q14 : (M.2.1 77 28).toInt = ca) (q15 : CWk M sg) (q16 : FA M) (q17 : PLk M sg) (q18 : W8 M) (q19 : NTr M NN nz) (h : ∀ (r : Int32) (M1 : mm_M), g_G M1 → FR md_do M M1 → (0 ≤ r.toInt) → (r.toInt ≤ 1) → (∃ P1 : x_P, PKr M1 P1 ∧ x_pg P1 ca ca ∧ RUN A9 (x_U D8 (x_dt (x_kn sg NN nz.toNat) ov sg.1) A9) n9 (0, [], 0, (0, P9)) (r.toInt, (M1.2.1 77 43).toInt, ((M1.2.1 77 42).toInt, P1))) → Q (some (.int r)) M1) : mm_T X d 217 0 [.ref 77, .null, .null] [] M Q := by
  have F0 : FR md_do M M := FR.rf
  have b_362 := g_b hG (a := 77) (i := 52) (lo := 0) (hi := 5) rfl rfl
  have b_363 := g_b hG (a := 77) (i := 44) (lo := 0) (hi := 40) rfl rfl
  have b_364 := g_b hG (a := 77) (i := 11) (lo := 10) (hi := 60) rfl rfl
  have b_365 := g_b hG (a := 77) (i := 29) (lo := 0) (hi := 150) rfl rfl
  have b_366 := g_b hG (a := 77) (i := 28) (lo := 0) (hi := 30) rfl rfl
  have b_367 := g_b hG (a := 77) (i := 43) (lo := 0) (hi := 3000) rfl rfl
  have z_368 := q17.2.1
  have z_369 := q17.2.2.1
  have z_370 := q17.2.2.2.1
  have z_371 := q17.1
  have z_372 := z_371.1
  have z_373 := z_371.2.1
  have z_374 := z_371.2.2.1
  have z_375 := z_371.2.2.2.1
  have z_376 := z_371.2.2.2.2.1
  have z_377 := z_371.2.2.2.2.2.1
  have b_378 := g_b hG (a := 77) (i := 12) (lo := 0) (hi := 8) rfl rfl
  have b_379 := g_b hG (a := 77) (i := 13) (lo := 0) (hi := 12) rfl rfl
  refine to_an (pc := 0) rw_218_0 rfl ?_
  refine to_an (pc := 1) rw_218_1 rfl ?_
  refine tt_gI (pc := 2) rw_218_2 (g_o hG rfl) (v := (M.2.1 77 29)) rfl ?_
  refine s_v (pc := 5) rw_218_5 (dp0 hd (by decide)) (ls0 := [.ref 77, .int (M.2.1 77 29), .null, .null]) rfl (Nat.le_of_ble_eq_true rfl) (Nat.le_of_ble_eq_true rfl) rfl (to_rc rfl rfl rfl (g_o hG rfl)) rfl ?_
  refine E_189 hX (dp1 hd (by decide)) hG (by omega) (by omega) (by omega) q11 (by omega) (by omega) q15 q16 q17 q18 q19 (n := (M.2.1 77 29)) (sg := sg) (NN := NN) (nz := nz) (ca := ca) (fun M383 hG381 F380 p_382 => ?_)
  have F384 := FR.c F0 F380 tg_240
  refine to_an (pc := 8) rw_218_8 rfl ?_
  refine to_c (pc := 9) rw_218_9 (x := (0 : Int32)) rfl rfl ?_
  refine s_pI (pc := 10) rw_218_10 hG381 rfl (fun M386 W385 => ?_)
  have hG387 := g_wf hG381 W385 rfl rfl (by decide)
  have F388 := FR.w F384 W385 (show 77 = 77 ∧ (42 = 42 ∨ 42 = 43) ∨ 94 ≤ 77 ∧ 77 ≤ 98 ∨ 77 = 99 ∨ 77 = 100 ∨ 77 = 109 ∨ 77 = 110 ∨ 77 = 111 by decide)
  refine to_an (pc := 13) rw_218_13 rfl ?_
  refine to_c (pc := 14) rw_218_14 (x := (0 : Int32)) rfl rfl ?_
  refine s_pI (pc := 15) rw_218_15 hG387 rfl (fun M390 W389 => ?_)
  have hG391 := g_w hG387 W389 (A := 0) rfl (lo := 0) (hi := 3000) rfl rfl (by omega) (by decide)
  have F392 := FR.w F388 W389 (show 77 = 77 ∧ (43 = 42 ∨ 43 = 43) ∨ 94 ≤ 77 ∧ 77 ≤ 98 ∨ 77 = 99 ∨ 77 = 100 ∨ 77 = 109 ∨ 77 = 110 ∨ 77 = 111 by decide)
  refine to_c (pc := 18) rw_218_18 (x := (0 : Int32)) rfl rfl ?_
  refine to_isn (pc := 19) rw_218_19 (ls2 := [.ref 77, .int (0 : Int32), .null]) rfl rfl ?_
  refine to_c (pc := 20) rw_218_20 (x := (0 : Int32)) rfl rfl ?_
  refine to_isn (pc := 21) rw_218_21 (ls2 := [.ref 77, .int (0 : Int32), .int (0 : Int32)]) rfl rfl ?_
  have k_393 : (0 : Int32).toInt = 0 := rfl
  have c_394 : M390.2.1 77 44 = (M.2.1 77 44) := (W_n W389 (by decide) (W_n W385 (by decide) (F_n F380 (show ¬ (94 ≤ 77 ∧ 77 ≤ 98) by decide) rfl)))
  have t_395 : (M390.2.1 77 44).toInt = (M.2.1 77 44).toInt := congrArg Int32.toInt c_394
  have c_396 : M390.2.1 77 52 = (M.2.1 77 52) := (W_n W389 (by decide) (W_n W385 (by decide) (F_n F380 (show ¬ (94 ≤ 77 ∧ 77 ≤ 98) by decide) rfl)))
  have t_397 : (M390.2.1 77 52).toInt = (M.2.1 77 52).toInt := congrArg Int32.toInt c_396
  have j_398 := (ST_f (fun a i z => W_n W389 (by /-r77,43-/ omega) rfl) (ST_f (fun a i z => W_n W385 (by /-r77,42-/ omega) rfl) (ST_f (tg_236 F380) q2)))
  have s_399 : LSm M390 ((0 : Int32).toInt).toNat = 0 := rfl
  have j_400 := (AB_f (fun a i z => W_n W389 (by /-r77,43-/ omega) rfl) (AB_f (fun a i z => W_n W385 (by /-r77,42-/ omega) rfl) (AB_f (tg_237 F380) q1)))
  have c_401 : M390.2.1 77 11 = (M.2.1 77 11) := (W_n W389 (by decide) (W_n W385 (by decide) (F_n F380 (show ¬ (94 ≤ 77 ∧ 77 ≤ 98) by decide) rfl)))
  have t_402 : (M390.2.1 77 11).toInt = (M.2.1 77 11).toInt := congrArg Int32.toInt c_401
  have c_403 : M390.2.1 77 42 = (0 : Int32) := (W_n W389 (by decide) (W_e W385))
  have t_404 : (M390.2.1 77 42).toInt = (0 : Int32).toInt := congrArg Int32.toInt c_403
  have c_405 : M390.2.1 77 43 = (0 : Int32) := (W_e W389)
  have t_406 : (M390.2.1 77 43).toInt = (0 : Int32).toInt := congrArg Int32.toInt c_405
  have j_407 := (PLk_f (fun a i z => W_n W389 (tg_243 a i z) rfl) (PLk_f (fun a i z => W_n W385 (tg_244 a i z) rfl) (PLk_f (tg_136 F380) q17)))
  have kn_408 : KST M390 96 98 97 95 ca sg (x_kn sg NN ((M.2.1 77 29).toInt).toNat) := KST_f (fun i => (W_j W389 (W_j W385 rfl))) (fun i => (W_n W389 (by omega) (W_n W385 (by omega) rfl))) (fun i => (W_n W389 (by omega) (W_n W385 (by omega) rfl))) (fun i => (W_j W389 (W_j W385 rfl))) p_382
  have j_409 := (PKr_f (fun a i z => W_n W389 (by /-r77,43-/ omega) rfl) (PKr_f (fun a i z => W_n W385 (by /-r77,42-/ omega) rfl) (PKr_f (fun a i z => F_n F380 (show ¬ (94 ≤ a ∧ a ≤ 98) by omega) rfl) q9)))
  exact (U_218_0 (sg := sg) (NN := NN) (nz := nz) (ca := ca) (D8 := D8) (A9 := A9) (n9 := n9) (P9 := P9) (ov := ov) hX hd q1 q2 q3 q4 q5 q6 q7 q8 q9 q10 q11 q12 q13 q14 q15 q16 q17 q18 q19 h (((3000 - (M390.2.1 77 43).toInt) * 1000 + LSm M390 ((0 : Int32).toInt).toNat).toNat + 1)) M390 (0 : Int32) (0 : Int32) hG391 F392 (by omega) (by omega) (by omega) (by omega) (by omega) (DK_0 j_398 (by omega)) (fun i z => absurd z (by omega)) j_400 (by omega) (by omega) (by omega) j_407 (((W_n W389 (by omega) (W_n W385 (by omega) (F_n F380 (show ¬ (94 ≤ 77 ∧ 77 ≤ 98) by decide) rfl)))).trans q8) (KST_nv (by omega) kn_408) (WKr_f (fun a i z => (W_n W389 (by /-r77,43-/ omega) (W_n W385 (by /-r77,42-/ omega) (F_n F380 (show ¬ (94 ≤ a ∧ a ≤ 98) by omega) rfl)))) (fun i => (W_j W389 (W_j W385 (F_nl F380 (show ¬ (94 ≤ 106 ∧ 106 ≤ 98) by decide) rfl)))) q6) ⟨P9, j_409, q10, RNK_0 (by omega) (by omega) (by omega) (by omega)⟩ (by omega)
