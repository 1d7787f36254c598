theorem tg_313 {M M1 : mm_M} (F : FR (fun a i : Nat => a = 77 ∧ (i = 4 ∨ i = 5 ∨ 7 ≤ i ∧ i ≤ 10) ∨ a = 77 ∧ (i = 59 ∨ 65 ≤ i ∧ i ≤ 69) ∨ 112 ≤ a ∧ a ≤ 114 ∧ 40 ≤ i ∨ a = 115 ∨ a = 116) M M1) : ∀ a i : Nat, (81 ≤ a ∧ a ≤ 84) → M1.2.1 a i = M.2.1 a i := fun a i z => F_n F (show ¬ (a = 77 ∧ (i = 4 ∨ i = 5 ∨ 7 ≤ i ∧ i ≤ 10) ∨ a = 77 ∧ (i = 59 ∨ 65 ≤ i ∧ i ≤ 69) ∨ 112 ≤ a ∧ a ≤ 114 ∧ 40 ≤ i ∨ a = 115 ∨ a = 116) by omega) rfl
theorem tg_314 {M M1 : mm_M} (F : FR (fun a i : Nat => a = 77 ∧ (i = 4 ∨ i = 5 ∨ 7 ≤ i ∧ i ≤ 10) ∨ a = 77 ∧ (i = 59 ∨ 65 ≤ i ∧ i ≤ 69) ∨ 112 ≤ a ∧ a ≤ 114 ∧ 40 ≤ i ∨ a = 115 ∨ a = 116) M M1) : ∀ a i : Nat, WC_r a i → M1.2.1 a i = M.2.1 a i := fun a i z => F_n F (show ¬ (a = 77 ∧ (i = 4 ∨ i = 5 ∨ 7 ≤ i ∧ i ≤ 10) ∨ a = 77 ∧ (i = 59 ∨ 65 ≤ i ∧ i ≤ 69) ∨ 112 ≤ a ∧ a ≤ 114 ∧ 40 ≤ i ∨ a = 115 ∨ a = 116) by omega) rfl
theorem tg_315 {M M1 : mm_M} (F : FR (fun a i : Nat => a = 77 ∧ (i = 4 ∨ i = 5 ∨ 7 ≤ i ∧ i ≤ 10) ∨ a = 77 ∧ (i = 59 ∨ 65 ≤ i ∧ i ≤ 69) ∨ 112 ≤ a ∧ a ≤ 114 ∧ 40 ≤ i ∨ a = 115 ∨ a = 116) M M1) : ∀ a i : Nat, NJ_r a i → M1.2.1 a i = M.2.1 a i := fun a i z => F_n F (show ¬ (a = 77 ∧ (i = 4 ∨ i = 5 ∨ 7 ≤ i ∧ i ≤ 10) ∨ a = 77 ∧ (i = 59 ∨ 65 ≤ i ∧ i ≤ 69) ∨ 112 ≤ a ∧ a ≤ 114 ∧ 40 ≤ i ∨ a = 115 ∨ a = 116) by omega) rfl
theorem tg_316 {M M1 : mm_M} (F : FR (fun a i : Nat => a = 77 ∧ (i = 4 ∨ i = 5 ∨ 7 ≤ i ∧ i ≤ 10) ∨ a = 77 ∧ (i = 59 ∨ 65 ≤ i ∧ i ≤ 69) ∨ 112 ≤ a ∧ a ≤ 114 ∧ 40 ≤ i ∨ a = 115 ∨ a = 116) M M1) : ∀ a i : Nat, (a = 100 ∨ a = 77 ∧ i = 28) → M1.2.1 a i = M.2.1 a i := fun a i z => F_n F (show ¬ (a = 77 ∧ (i = 4 ∨ i = 5 ∨ 7 ≤ i ∧ i ≤ 10) ∨ a = 77 ∧ (i = 59 ∨ 65 ≤ i ∧ i ≤ 69) ∨ 112 ≤ a ∧ a ≤ 114 ∧ 40 ≤ i ∨ a = 115 ∨ a = 116) by omega) rfl
theorem tg_317 {M M1 : mm_M} (F : FR (fun a i : Nat => a = 77 ∧ (i = 4 ∨ i = 5 ∨ 7 ≤ i ∧ i ≤ 10) ∨ a = 77 ∧ (i = 59 ∨ 65 ≤ i ∧ i ≤ 69) ∨ 112 ≤ a ∧ a ≤ 114 ∧ 40 ≤ i ∨ a = 115 ∨ a = 116) M M1) : ∀ a i : Nat, KQ_r a i → M1.2.1 a i = M.2.1 a i := fun a i z => F_n F (show ¬ (a = 77 ∧ (i = 4 ∨ i = 5 ∨ 7 ≤ i ∧ i ≤ 10) ∨ a = 77 ∧ (i = 59 ∨ 65 ≤ i ∧ i ≤ 69) ∨ 112 ≤ a ∧ a ≤ 114 ∧ 40 ≤ i ∨ a = 115 ∨ a = 116) by omega) rfl
theorem tg_318 {M M1 : mm_M} (F : FR (fun a i : Nat => a = 77 ∧ (i = 59 ∨ i = 65 ∨ i = 66) ∨ 112 ≤ a ∧ a ≤ 114 ∧ 40 ≤ i ∨ a = 116) M M1) : ∀ a i : Nat, (81 ≤ a ∧ a ≤ 84) → M1.2.1 a i = M.2.1 a i := fun a i z => F_n F (show ¬ (a = 77 ∧ (i = 59 ∨ i = 65 ∨ i = 66) ∨ 112 ≤ a ∧ a ≤ 114 ∧ 40 ≤ i ∨ a = 116) by omega) rfl
theorem tg_319 {M M1 : mm_M} (F : FR (fun a i : Nat => a = 77 ∧ (i = 59 ∨ i = 65 ∨ i = 66) ∨ 112 ≤ a ∧ a ≤ 114 ∧ 40 ≤ i ∨ a = 116) M M1) : ∀ a i : Nat, WC_r a i → M1.2.1 a i = M.2.1 a i := fun a i z => F_n F (show ¬ (a = 77 ∧ (i = 59 ∨ i = 65 ∨ i = 66) ∨ 112 ≤ a ∧ a ≤ 114 ∧ 40 ≤ i ∨ a = 116) by omega) rfl
theorem tg_320 {M M1 : mm_M} (F : FR (fun a i : Nat => a = 77 ∧ (i = 59 ∨ i = 65 ∨ i = 66) ∨ 112 ≤ a ∧ a ≤ 114 ∧ 40 ≤ i ∨ a = 116) M M1) : ∀ a i : Nat, NJ_r a i → M1.2.1 a i = M.2.1 a i := fun a i z => F_n F (show ¬ (a = 77 ∧ (i = 59 ∨ i = 65 ∨ i = 66) ∨ 112 ≤ a ∧ a ≤ 114 ∧ 40 ≤ i ∨ a = 116) by omega) rfl
theorem tg_321 {M M1 : mm_M} (F : FR (fun a i : Nat => a = 77 ∧ (i = 59 ∨ i = 65 ∨ i = 66) ∨ 112 ≤ a ∧ a ≤ 114 ∧ 40 ≤ i ∨ a = 116) M M1) : ∀ a i : Nat, (a = 100 ∨ a = 77 ∧ i = 28) → M1.2.1 a i = M.2.1 a i := fun a i z => F_n F (show ¬ (a = 77 ∧ (i = 59 ∨ i = 65 ∨ i = 66) ∨ 112 ≤ a ∧ a ≤ 114 ∧ 40 ≤ i ∨ a = 116) by omega) rfl
theorem tg_322 : ∀ a i : Nat, (a = 77 ∧ (i = 4 ∨ i = 5 ∨ 7 ≤ i ∧ i ≤ 10) ∨ a = 77 ∧ (i = 59 ∨ 65 ≤ i ∧ i ≤ 69) ∨ 112 ≤ a ∧ a ≤ 114 ∧ 40 ≤ i ∨ a = 115 ∨ a = 116) → (a = 77 ∧ (1 ≤ i ∧ i ≤ 2 ∨ 4 ≤ i ∧ i ≤ 10 ∨ 57 ≤ i ∧ i ≤ 59 ∨ 65 ≤ i ∧ i ≤ 69) ∨ 112 ≤ a ∧ a ≤ 116) := fun a i z => by omega
theorem tg_323 : ∀ a i : Nat, (a = 77 ∧ (i = 59 ∨ i = 65 ∨ i = 66) ∨ 112 ≤ a ∧ a ≤ 114 ∧ 40 ≤ i ∨ a = 116) → (a = 77 ∧ (1 ≤ i ∧ i ≤ 2 ∨ 4 ≤ i ∧ i ≤ 10 ∨ 57 ≤ i ∧ i ≤ 59 ∨ 65 ≤ i ∧ i ≤ 69) ∨ 112 ≤ a ∧ a ≤ 116) := fun a i z => by omega
theorem tg_324 : ∀ a i : Nat, (a = 77 ∧ (i = 1 ∨ 4 ≤ i ∧ i ≤ 10)) → (a = 77 ∧ (1 ≤ i ∧ i ≤ 2 ∨ 4 ≤ i ∧ i ≤ 10 ∨ 57 ≤ i ∧ i ≤ 59 ∨ 65 ≤ i ∧ i ≤ 69) ∨ 112 ≤ a ∧ a ≤ 116) := fun a i z => by omega
theorem tg_325 : ∀ a i j : Nat, (81 ≤ a ∧ a ≤ 84) → ¬ (a = 114 ∧ i = j) := fun a i j z => by omega
theorem tg_326 : ∀ a i j : Nat, (81 ≤ a ∧ a ≤ 84) → ¬ (a = 113 ∧ i = j) := fun a i j z => by omega
theorem tg_327 : ∀ a i j : Nat, (81 ≤ a ∧ a ≤ 84) → ¬ (a = 112 ∧ i = j) := fun a i j z => by omega
theorem tg_328 : ∀ a i j : Nat, (a = 100 ∨ a = 77 ∧ i = 28) → ¬ (a = 114 ∧ i = j) := fun a i j z => by omega
theorem tg_329 : ∀ a i j : Nat, (a = 100 ∨ a = 77 ∧ i = 28) → ¬ (a = 113 ∧ i = j) := fun a i j z => by omega
theorem tg_330 : ∀ a i j : Nat, (a = 100 ∨ a = 77 ∧ i = 28) → ¬ (a = 112 ∧ i = j) := fun a i j z => by omega
theorem tg_331 : ∀ a i : Nat, (a = 100 ∨ a = 77 ∧ i = 28) → ¬ (a = 77 ∧ i = 57) := fun a i z => by omega
theorem tg_332 : ∀ a i : Nat, (a = 100 ∨ a = 77 ∧ i = 28) → ¬ (a = 77 ∧ i = 58) := fun a i z => by omega
theorem tg_333 : ∀ a i : Nat, (81 ≤ a ∧ a ≤ 84) → ¬ (a = 77 ∧ i = 67) := fun a i z => by omega
theorem tg_334 : ∀ a i : Nat, (81 ≤ a ∧ a ≤ 84) → ¬ (a = 77 ∧ i = 66) := fun a i z => by omega
theorem tg_335 : ∀ a i : Nat, (81 ≤ a ∧ a ≤ 84) → ¬ (a = 77 ∧ i = 65) := fun a i z => by omega
theorem tg_336 : ∀ a i : Nat, (81 ≤ a ∧ a ≤ 84) → ¬ (a = 77 ∧ i = 59) := fun a i z => by omega
theorem tg_337 : ∀ a i : Nat, (a = 100 ∨ a = 77 ∧ i = 28) → ¬ (a = 77 ∧ i = 68) := fun a i z => by omega
theorem tg_338 : ∀ a i : Nat, (a = 100 ∨ a = 77 ∧ i = 28) → ¬ (a = 77 ∧ i = 67) := fun a i z => by omega
theorem tg_339 : ∀ a i : Nat, (a = 100 ∨ a = 77 ∧ i = 28) → ¬ (a = 77 ∧ i = 66) := fun a i z => by omega
theorem tg_340 : ∀ a i : Nat, (a = 100 ∨ a = 77 ∧ i = 28) → ¬ (a = 77 ∧ i = 65) := fun a i z => by omega
theorem tg_341 : ∀ a i : Nat, (a = 100 ∨ a = 77 ∧ i = 28) → ¬ (a = 77 ∧ i = 69) := fun a i z => by omega
theorem tg_342 : ∀ a i : Nat, (a = 100 ∨ a = 77 ∧ i = 28) → ¬ (a = 77 ∧ i = 59) := fun a i z => by omega
set_option maxRecDepth 4000 in
set_option maxHeartbeats 0 in
theorem T_227_0 {X : mm_X} {d : Nat} {M : mm_M} {Q : Option Value → mm_M → Prop} {n : Int32} (hX : g_X X) (hd : 3 ≤ d) (q1 : (M.2.1 77 7).toInt ≤ (M.2.1 77 6).toInt) (q2 : FA M) (q3 : WC M) (q4 : NJ M) (q5 : PS M) (q6 : KQ M) (h : ∀ (r : Int32) (M1 : mm_M), g_G M1 → FR md_qu M M1 → ((M1.2.1 77 7).toInt ≤ (M1.2.1 77 6).toInt) → FA M1 → WC M1 → NJ M1 → PS M1 → KQ M1 → (n.toInt < 0 ∨ (M.2.1 77 1).toInt < n.toInt → (M1.2.1 77 1).toInt = (M.2.1 77 1).toInt) → (0 ≤ n.toInt ∧ n.toInt ≤ (M.2.1 77 1).toInt → (M1.2.1 77 1).toInt = 0) → Q (some (.int r)) M1) : ∀ nn9 : Nat, (∀ (N : mm_M) (u1 : Value) (x2 : Int32), g_G N → FR md_qu M N → (0 ≤ x2.toInt) → (x2.toInt ≤ 40) → (1 ≤ (N.2.1 77 58).toInt) → (∀ a j : Nat, (112 ≤ a ∧ a ≤ 114) → j < (x2.toInt).toNat → N.2.1 a j = N.2.1 a (40 + j)) → (KN N 40 ((N.2.1 77 58).toInt).toNat) → ((N.2.1 77 7).toInt ≤ (N.2.1 77 6).toInt) → (FA N) → (WC N) → (NJ N) → (PS N) → ((N.2.1 77 1).toInt = 0) → (0 ≤ n.toInt) → (n.toInt ≤ (M.2.1 77 1).toInt) → 40 - x2.toInt < (nn9 : Int) → mm_T X d 226 113 [.ref 77, u1, .int x2] [] N Q) := by
  intro nn9
  induction nn9 with
  | zero =>
    intro N u1 x2 hG F0 g1 g2 g3 g4 g5 g6 g7 g8 g9 g10 g11 g12 g13 hm
    have b_1 := g_b hG (a := 77) (i := 58) (lo := 0) (hi := 40) rfl rfl
    have b_2 := g_b hG (a := 77) (i := 7) (lo := 0) (hi := 500) rfl rfl
    have b_3 := g_b hG (a := 77) (i := 6) (lo := 0) (hi := 500) rfl rfl
    have b_4 := g_b hG (a := 77) (i := 1) (lo := 0) (hi := 500) rfl rfl
    exfalso; omega
  | succ nn9 ih =>
    intro N u1 x2 hG F0 g1 g2 g3 g4 g5 g6 g7 g8 g9 g10 g11 g12 g13 hm
    have b_5 := g_b hG (a := 77) (i := 58) (lo := 0) (hi := 40) rfl rfl
    have b_6 := g_b hG (a := 77) (i := 7) (lo := 0) (hi := 500) rfl rfl
    have b_7 := g_b hG (a := 77) (i := 6) (lo := 0) (hi := 500) rfl rfl
    have b_8 := g_b hG (a := 77) (i := 1) (lo := 0) (hi := 500) rfl rfl
    refine to_in (pc := 113) rw_227_113 rfl (to_an (pc := 114) rw_227_114 rfl (tt_gI (pc := 115) rw_227_115 (g_o hG rfl) (v := (N.2.1 77 58)) rfl (b_cge (pc := 118) rw_227_118 (A := x2.toInt) (B := (N.2.1 77 58).toInt) rfl rfl (fun h9 => ?_) (fun h9 => ?_))))
    · refine to_an (pc := 172) rw_227_172 rfl (tt_gI (pc := 173) rw_227_173 (g_o hG rfl) (v := (N.2.1 77 58)) rfl (to_r0 (pc := 176) rw_227_176 ?_))
      have j_10 : KQ N := ⟨KN_c g5 (fun a j z zl => g4 a j z (by omega)), fun _ => by omega⟩
      exact h (N.2.1 77 58) N hG F0 (by omega) g7 g8 g9 g10 j_10 (by omega) (by omega)
    · refine to_an (pc := 121) rw_227_121 rfl (s_gR (pc := 122) rw_227_122 hG rfl (v := 112) rfl (to_in (pc := 125) rw_227_125 rfl (to_an (pc := 126) rw_227_126 rfl (s_gR (pc := 127) rw_227_127 hG rfl (v := 112) rfl (to_c (pc := 130) rw_227_130 (x := (40 : Int32)) rfl rfl (to_in (pc := 132) rw_227_132 rfl (s_add (pc := 133) rw_227_133 (A := 40) (B := x2.toInt) rfl rfl (by omega) (fun v11 e12 => s_ial (pc := 134) rw_227_134 hG rfl (n := 80) rfl rfl (A := v11.toInt) rfl (by omega) (by omega) (lo := 0) (hi := 4) rfl rfl (fun v13 w_14 _ _ => s_ias (pc := 135) rw_227_135 hG rfl (n := 80) rfl (A := x2.toInt) rfl (by omega) (by omega) (fun M16 W15 => ?_))))))))))
      have hG17 := g_w hG W15 (A := v13.toInt) rfl (lo := 0) (hi := 4) rfl rfl (by omega) (by decide)
      have F18 := FR.w F0 W15 (show 112 = 77 ∧ (1 ≤ (x2.toInt).toNat ∧ (x2.toInt).toNat ≤ 2 ∨ 4 ≤ (x2.toInt).toNat ∧ (x2.toInt).toNat ≤ 10 ∨ 57 ≤ (x2.toInt).toNat ∧ (x2.toInt).toNat ≤ 59 ∨ 65 ≤ (x2.toInt).toNat ∧ (x2.toInt).toNat ≤ 69) ∨ 112 ≤ 112 ∧ 112 ≤ 116 by omega)
      refine to_an (pc := 136) rw_227_136 rfl (s_gR (pc := 137) rw_227_137 hG17 rfl (v := 113) rfl (to_in (pc := 140) rw_227_140 rfl (to_an (pc := 141) rw_227_141 rfl (s_gR (pc := 142) rw_227_142 hG17 rfl (v := 113) rfl (to_c (pc := 145) rw_227_145 (x := (40 : Int32)) rfl rfl (to_in (pc := 147) rw_227_147 rfl (s_add (pc := 148) rw_227_148 (A := 40) (B := x2.toInt) rfl rfl (by omega) (fun v19 e20 => s_ial (pc := 149) rw_227_149 hG17 rfl (n := 80) rfl rfl (A := v19.toInt) rfl (by omega) (by omega) (lo := 0) (hi := 39) rfl rfl (fun v21 w_22 _ _ => s_ias (pc := 150) rw_227_150 hG17 rfl (n := 80) rfl (A := x2.toInt) rfl (by omega) (by omega) (fun M24 W23 => ?_))))))))))
      have hG25 := g_w hG17 W23 (A := v21.toInt) rfl (lo := 0) (hi := 39) rfl rfl (by omega) (by decide)
      have F26 := FR.w F18 W23 (show 113 = 77 ∧ (1 ≤ (x2.toInt).toNat ∧ (x2.toInt).toNat ≤ 2 ∨ 4 ≤ (x2.toInt).toNat ∧ (x2.toInt).toNat ≤ 10 ∨ 57 ≤ (x2.toInt).toNat ∧ (x2.toInt).toNat ≤ 59 ∨ 65 ≤ (x2.toInt).toNat ∧ (x2.toInt).toNat ≤ 69) ∨ 112 ≤ 113 ∧ 113 ≤ 116 by omega)
      refine to_an (pc := 151) rw_227_151 rfl (s_gR (pc := 152) rw_227_152 hG25 rfl (v := 114) rfl (to_in (pc := 155) rw_227_155 rfl (to_an (pc := 156) rw_227_156 rfl (s_gR (pc := 157) rw_227_157 hG25 rfl (v := 114) rfl (to_c (pc := 160) rw_227_160 (x := (40 : Int32)) rfl rfl (to_in (pc := 162) rw_227_162 rfl (s_add (pc := 163) rw_227_163 (A := 40) (B := x2.toInt) rfl rfl (by omega) (fun v27 e28 => s_ial (pc := 164) rw_227_164 hG25 rfl (n := 80) rfl rfl (A := v27.toInt) rfl (by omega) (by omega) (lo := -2147483648) (hi := 2147483647) rfl rfl (fun v29 w_30 _ _ => s_ias (pc := 165) rw_227_165 hG25 rfl (n := 80) rfl (A := x2.toInt) rfl (by omega) (by omega) (fun M32 W31 => ?_))))))))))
      have hG33 := g_wf hG25 W31 rfl rfl (by decide)
      have F34 := FR.w F26 W31 (show 114 = 77 ∧ (1 ≤ (x2.toInt).toNat ∧ (x2.toInt).toNat ≤ 2 ∨ 4 ≤ (x2.toInt).toNat ∧ (x2.toInt).toNat ≤ 10 ∨ 57 ≤ (x2.toInt).toNat ∧ (x2.toInt).toNat ≤ 59 ∨ 65 ≤ (x2.toInt).toNat ∧ (x2.toInt).toNat ≤ 69) ∨ 112 ≤ 114 ∧ 114 ≤ 116 by omega)
      refine s_inc (pc := 166) rw_227_166 (ls2 := fun v => [.ref 77, u1, .int v]) rfl rfl (fun _ => rfl) (A := x2.toInt) (B := 1) rfl rfl (by omega) (fun v35 e36 => to_go (pc := 169) rw_227_169 ?_)
      have c_37 : M32.2.1 77 58 = (N.2.1 77 58) := (W_n W31 (fun z => absurd z.1 (by decide)) (W_n W23 (fun z => absurd z.1 (by decide)) (W_n W15 (fun z => absurd z.1 (by decide)) rfl)))
      have t_38 : (M32.2.1 77 58).toInt = (N.2.1 77 58).toInt := congrArg Int32.toInt c_37
      have j_39 : ∀ j : Nat, j < (v35.toInt).toNat → M32.2.1 112 j = M32.2.1 112 (40 + j) := by
        rw [show (v35.toInt).toNat = (x2.toInt).toNat + 1 by omega]
        exact CP_s (M1 := M32) (fun j z => g4 112 j (by omega) z) (by omega) (fun i z => (W_n W31 (by omega) (W_n W23 (by omega) (W_n W15 (by omega) rfl)))) (W_n W31 (by omega) (W_n W23 (by omega) (W_e W15))) (by rw [show 40 + (x2.toInt).toNat = (v11.toInt).toNat by omega]; exact w_14)
      have j_40 : ∀ j : Nat, j < (v35.toInt).toNat → M32.2.1 113 j = M32.2.1 113 (40 + j) := by
        rw [show (v35.toInt).toNat = (x2.toInt).toNat + 1 by omega]
        exact CP_s (M1 := M32) (fun j z => g4 113 j (by omega) z) (by omega) (fun i z => (W_n W31 (by omega) (W_n W23 (by omega) (W_n W15 (by omega) rfl)))) (W_n W31 (by omega) (W_e W23)) (by rw [show 40 + (x2.toInt).toNat = (v19.toInt).toNat by omega]; exact (((W_n W15 (by omega) rfl)).symm.trans w_22))
      have j_41 : ∀ j : Nat, j < (v35.toInt).toNat → M32.2.1 114 j = M32.2.1 114 (40 + j) := by
        rw [show (v35.toInt).toNat = (x2.toInt).toNat + 1 by omega]
        exact CP_s (M1 := M32) (fun j z => g4 114 j (by omega) z) (by omega) (fun i z => (W_n W31 (by omega) (W_n W23 (by omega) (W_n W15 (by omega) rfl)))) (W_e W31) (by rw [show 40 + (x2.toInt).toNat = (v27.toInt).toNat by omega]; exact (((W_n W23 (by omega) (W_n W15 (by omega) rfl))).symm.trans w_30))
      have c_42 : M32.2.1 77 7 = (N.2.1 77 7) := (W_n W31 (fun z => absurd z.1 (by decide)) (W_n W23 (fun z => absurd z.1 (by decide)) (W_n W15 (fun z => absurd z.1 (by decide)) rfl)))
      have t_43 : (M32.2.1 77 7).toInt = (N.2.1 77 7).toInt := congrArg Int32.toInt c_42
      have c_44 : M32.2.1 77 6 = (N.2.1 77 6) := (W_n W31 (fun z => absurd z.1 (by decide)) (W_n W23 (fun z => absurd z.1 (by decide)) (W_n W15 (fun z => absurd z.1 (by decide)) rfl)))
      have t_45 : (M32.2.1 77 6).toInt = (N.2.1 77 6).toInt := congrArg Int32.toInt c_44
      have j_46 := (FA_f (fun a i z => W_n W31 (tg_325 a i _ z) rfl) (FA_f (fun a i z => W_n W23 (tg_326 a i _ z) rfl) (FA_f (fun a i z => W_n W15 (tg_327 a i _ z) rfl) g7)))
      have j_47 := (WC_f (fun a i z => W_n W31 (by /-r114-/ omega) rfl) (WC_f (fun a i z => W_n W23 (by /-r113-/ omega) rfl) (WC_f (fun a i z => W_n W15 (by /-r112-/ omega) rfl) g8)))
      have j_48 := (NJ_f (fun a i z => W_n W31 (by /-r114-/ omega) rfl) (NJ_f (fun a i z => W_n W23 (by /-r113-/ omega) rfl) (NJ_f (fun a i z => W_n W15 (by /-r112-/ omega) rfl) g9)))
      have j_49 := (PS_f (fun a i z => W_n W31 (tg_328 a i _ z) rfl) (PS_f (fun a i z => W_n W23 (tg_329 a i _ z) rfl) (PS_f (fun a i z => W_n W15 (tg_330 a i _ z) rfl) g10)))
      have c_50 : M32.2.1 77 1 = (N.2.1 77 1) := (W_n W31 (fun z => absurd z.1 (by decide)) (W_n W23 (fun z => absurd z.1 (by decide)) (W_n W15 (fun z => absurd z.1 (by decide)) rfl)))
      have t_51 : (M32.2.1 77 1).toInt = (N.2.1 77 1).toInt := congrArg Int32.toInt c_50
      exact ih M32 (u1) v35 hG33 F34 (by omega) (by omega) (by omega) (fun a j z zl => by
          rcases (show a = 112 ∨ a = 113 ∨ a = 114 by omega) with e | e | e <;> subst e
          · exact j_39 j zl
          · exact j_40 j zl
          · exact j_41 j zl) (by rw [(W_n W31 (by omega) (W_n W23 (by omega) (W_n W15 (by omega) rfl)))]; exact KN_f (fun a i z => (W_n W31 (by /-r114-/ omega) (W_n W23 (by /-r113-/ omega) (W_n W15 (by /-r112-/ omega) rfl)))) g5) (by omega) j_46 j_47 j_48 j_49 (by omega) (by omega) (by omega) (by omega)
set_option maxRecDepth 4000 in
set_option maxHeartbeats 0 in
theorem T_227_1 {X : mm_X} {d : Nat} {M : mm_M} {Q : Option Value → mm_M → Prop} {n : Int32} (hX : g_X X) (hd : 3 ≤ d) (q1 : (M.2.1 77 7).toInt ≤ (M.2.1 77 6).toInt) (q2 : FA M) (q3 : WC M) (q4 : NJ M) (q5 : PS M) (q6 : KQ M) (h : ∀ (r : Int32) (M1 : mm_M), g_G M1 → FR md_qu M M1 → ((M1.2.1 77 7).toInt ≤ (M1.2.1 77 6).toInt) → FA M1 → WC M1 → NJ M1 → PS M1 → KQ M1 → (n.toInt < 0 ∨ (M.2.1 77 1).toInt < n.toInt → (M1.2.1 77 1).toInt = (M.2.1 77 1).toInt) → (0 ≤ n.toInt ∧ n.toInt ≤ (M.2.1 77 1).toInt → (M1.2.1 77 1).toInt = 0) → Q (some (.int r)) M1) : ∀ nn9 : Nat, (∀ (N : mm_M) (u1 : Value) (u2 : Value), g_G N → FR md_qu M N → ((N.2.1 77 7).toInt ≤ (N.2.1 77 6).toInt) → (FA N) → (WC N) → (NJ N) → (PS N) → (KQ N) → (QK N) → ((N.2.1 77 1).toInt = 0) → (0 ≤ n.toInt) → (n.toInt ≤ (M.2.1 77 1).toInt) → 6 * (500 - (N.2.1 77 7).toInt) + (N.2.1 77 8).toInt < (nn9 : Int) → mm_T X d 226 46 [.ref 77, u1, u2] [] N Q) := by
  intro nn9
  induction nn9 with
  | zero =>
    intro N u1 u2 hG F0 g1 g2 g3 g4 g5 g6 g7 g8 g9 g10 hm
    have b_52 := g_b hG (a := 77) (i := 7) (lo := 0) (hi := 500) rfl rfl
    have b_53 := g_b hG (a := 77) (i := 8) (lo := 0) (hi := 5) rfl rfl
    have b_54 := g_b hG (a := 77) (i := 6) (lo := 0) (hi := 500) rfl rfl
    have b_55 := g_b hG (a := 77) (i := 1) (lo := 0) (hi := 500) rfl rfl
    exfalso; omega
  | succ nn9 ih =>
    intro N u1 u2 hG F0 g1 g2 g3 g4 g5 g6 g7 g8 g9 g10 hm
    have b_56 := g_b hG (a := 77) (i := 7) (lo := 0) (hi := 500) rfl rfl
    have b_57 := g_b hG (a := 77) (i := 8) (lo := 0) (hi := 5) rfl rfl
    have b_58 := g_b hG (a := 77) (i := 6) (lo := 0) (hi := 500) rfl rfl
    have b_59 := g_b hG (a := 77) (i := 1) (lo := 0) (hi := 500) rfl rfl
    refine to_an (pc := 46) rw_227_46 rfl (tt_gI (pc := 47) rw_227_47 (g_o hG rfl) (v := (N.2.1 77 8)) rfl (b_ine (pc := 50) rw_227_50 (A := (N.2.1 77 8).toInt) rfl (fun h60 => ?_) (fun h60 => ?_)))
    · refine to_an (pc := 67) rw_227_67 rfl ?_
      have b_61 := g_b hG (a := 77) (i := 68) (lo := 0) (hi := 1) rfl rfl
      refine tt_gI (pc := 68) rw_227_68 (g_o hG rfl) (v := (N.2.1 77 68)) rfl (b_ine (pc := 71) rw_227_71 (A := (N.2.1 77 68).toInt) rfl (fun h62 => ?_) (fun h62 => ?_))
      · refine to_an (pc := 84) rw_227_84 rfl (s_v (pc := 85) rw_227_85 (dp0 hd (by decide)) (ls0 := [.ref 77, .null]) rfl (Nat.le_of_ble_eq_true rfl) (Nat.le_of_ble_eq_true rfl) rfl (to_rc rfl rfl rfl (g_o hG rfl)) rfl (C_226 hX (dp1 hd (by decide)) hG (by omega) g7 (by omega)  (fun r63 M73 hG65 F64 p_66 p_67 p_68 p_69 p_70 p_71 p_72 => ?_)))
        have F74 := FR.c F0 F64 tg_322
        have b_75 := g_b hG65 (a := 77) (i := 7) (lo := 0) (hi := 500) rfl rfl
        have c_76 : M73.2.1 77 6 = (N.2.1 77 6) := (F_n F64 (show ¬ (77 = 77 ∧ (6 = 4 ∨ 6 = 5 ∨ 7 ≤ 6 ∧ 6 ≤ 10) ∨ 77 = 77 ∧ (6 = 59 ∨ 65 ≤ 6 ∧ 6 ≤ 69) ∨ 112 ≤ 77 ∧ 77 ≤ 114 ∧ 40 ≤ 6 ∨ 77 = 115 ∨ 77 = 116) by decide) rfl)
        have t_77 : (M73.2.1 77 6).toInt = (N.2.1 77 6).toInt := congrArg Int32.toInt c_76
        have b_78 := g_b hG65 (a := 77) (i := 8) (lo := 0) (hi := 5) rfl rfl
        refine b_ine (pc := 88) rw_227_88 (A := r63.toInt) rfl (fun h79 => ?_) (fun h79 => ?_)
        · have j_80 := (FA_f (tg_313 F64) g2)
          have j_81 := (WC_f (tg_314 F64) g3)
          have j_82 := (NJ_f (tg_315 F64) g4)
          have j_83 := (PS_f (tg_316 F64) g5)
          have j_84 := (KQ_f (tg_317 F64) g6)
          have c_85 : M73.2.1 77 1 = (N.2.1 77 1) := (F_n F64 (show ¬ (77 = 77 ∧ (1 = 4 ∨ 1 = 5 ∨ 7 ≤ 1 ∧ 1 ≤ 10) ∨ 77 = 77 ∧ (1 = 59 ∨ 65 ≤ 1 ∧ 1 ≤ 69) ∨ 112 ≤ 77 ∧ 77 ≤ 114 ∧ 40 ≤ 1 ∨ 77 = 115 ∨ 77 = 116) by decide) rfl)
          have t_86 : (M73.2.1 77 1).toInt = (N.2.1 77 1).toInt := congrArg Int32.toInt c_85
          exact ih M73 (u1) (u2) hG65 F74 (by omega) j_80 j_81 j_82 j_83 j_84 (p_72 (by omega)) (by omega) (by omega) (by omega) (by omega)
        · refine to_c (pc := 91) rw_227_91 (x := (-1 : Int32)) rfl rfl (to_r0 (pc := 92) rw_227_92 ?_)
          have k_87 : (-1 : Int32).toInt = -1 := rfl
          have j_88 := (FA_f (tg_313 F64) g2)
          have j_89 := (WC_f (tg_314 F64) g3)
          have j_90 := (NJ_f (tg_315 F64) g4)
          have j_91 := (PS_f (tg_316 F64) g5)
          have j_92 := (KQ_f (tg_317 F64) g6)
          have c_93 : M73.2.1 77 1 = (N.2.1 77 1) := (F_n F64 (show ¬ (77 = 77 ∧ (1 = 4 ∨ 1 = 5 ∨ 7 ≤ 1 ∧ 1 ≤ 10) ∨ 77 = 77 ∧ (1 = 59 ∨ 65 ≤ 1 ∧ 1 ≤ 69) ∨ 112 ≤ 77 ∧ 77 ≤ 114 ∧ 40 ≤ 1 ∨ 77 = 115 ∨ 77 = 116) by decide) rfl)
          have t_94 : (M73.2.1 77 1).toInt = (N.2.1 77 1).toInt := congrArg Int32.toInt c_93
          exact h (-1 : Int32) M73 hG65 F74 (by omega) j_88 j_89 j_90 j_91 j_92 (by omega) (by omega)
      · refine to_an (pc := 74) rw_227_74 rfl (s_v (pc := 75) rw_227_75 (dp0 hd (by decide)) (ls0 := [.ref 77, .null, .null, .null, .null, .null]) rfl (Nat.le_of_ble_eq_true rfl) (Nat.le_of_ble_eq_true rfl) rfl (to_rc rfl rfl rfl (g_o hG rfl)) rfl (C_225 hX (dp1 hd (by decide)) hG (by omega) g7 g2 (by omega)  (fun r95 M105 hG97 F96 p_98 p_99 p_100 p_101 p_102 p_103 p_104 => ?_)))
        have F106 := FR.c F0 F96 tg_322
        have b_107 := g_b hG97 (a := 77) (i := 7) (lo := 0) (hi := 500) rfl rfl
        have c_108 : M105.2.1 77 6 = (N.2.1 77 6) := (F_n F96 (show ¬ (77 = 77 ∧ (6 = 4 ∨ 6 = 5 ∨ 7 ≤ 6 ∧ 6 ≤ 10) ∨ 77 = 77 ∧ (6 = 59 ∨ 65 ≤ 6 ∧ 6 ≤ 69) ∨ 112 ≤ 77 ∧ 77 ≤ 114 ∧ 40 ≤ 6 ∨ 77 = 115 ∨ 77 = 116) by decide) rfl)
        have t_109 : (M105.2.1 77 6).toInt = (N.2.1 77 6).toInt := congrArg Int32.toInt c_108
        have b_110 := g_b hG97 (a := 77) (i := 8) (lo := 0) (hi := 5) rfl rfl
        refine b_ieq (pc := 78) rw_227_78 (A := r95.toInt) rfl (fun h111 => ?_) (fun h111 => ?_)
        · refine to_c (pc := 91) rw_227_91 (x := (-1 : Int32)) rfl rfl (to_r0 (pc := 92) rw_227_92 ?_)
          have k_112 : (-1 : Int32).toInt = -1 := rfl
          have j_113 := (FA_f (tg_313 F96) g2)
          have j_114 := (WC_f (tg_314 F96) g3)
          have j_115 := (NJ_f (tg_315 F96) g4)
          have j_116 := (PS_f (tg_316 F96) g5)
          have j_117 := (KQ_f (tg_317 F96) g6)
          have c_118 : M105.2.1 77 1 = (N.2.1 77 1) := (F_n F96 (show ¬ (77 = 77 ∧ (1 = 4 ∨ 1 = 5 ∨ 7 ≤ 1 ∧ 1 ≤ 10) ∨ 77 = 77 ∧ (1 = 59 ∨ 65 ≤ 1 ∧ 1 ≤ 69) ∨ 112 ≤ 77 ∧ 77 ≤ 114 ∧ 40 ≤ 1 ∨ 77 = 115 ∨ 77 = 116) by decide) rfl)
          have t_119 : (M105.2.1 77 1).toInt = (N.2.1 77 1).toInt := congrArg Int32.toInt c_118
          exact h (-1 : Int32) M105 hG97 F106 (by omega) j_113 j_114 j_115 j_116 j_117 (by omega) (by omega)
        · refine to_go (pc := 81) rw_227_81 ?_
          have j_120 := (FA_f (tg_313 F96) g2)
          have j_121 := (WC_f (tg_314 F96) g3)
          have j_122 := (NJ_f (tg_315 F96) g4)
          have j_123 := (PS_f (tg_316 F96) g5)
          have j_124 := (KQ_f (tg_317 F96) g6)
          have c_125 : M105.2.1 77 1 = (N.2.1 77 1) := (F_n F96 (show ¬ (77 = 77 ∧ (1 = 4 ∨ 1 = 5 ∨ 7 ≤ 1 ∧ 1 ≤ 10) ∨ 77 = 77 ∧ (1 = 59 ∨ 65 ≤ 1 ∧ 1 ≤ 69) ∨ 112 ≤ 77 ∧ 77 ≤ 114 ∧ 40 ≤ 1 ∨ 77 = 115 ∨ 77 = 116) by decide) rfl)
          have t_126 : (M105.2.1 77 1).toInt = (N.2.1 77 1).toInt := congrArg Int32.toInt c_125
          exact ih M105 (u1) (u2) hG97 F106 (by omega) j_120 j_121 j_122 j_123 j_124 (p_104 (by omega)) (by omega) (by omega) (by omega) (by omega)
    · refine to_an (pc := 53) rw_227_53 rfl ?_
      have b_127 := g_b hG (a := 77) (i := 68) (lo := 0) (hi := 1) rfl rfl
      refine tt_gI (pc := 54) rw_227_54 (g_o hG rfl) (v := (N.2.1 77 68)) rfl (b_ieq (pc := 57) rw_227_57 (A := (N.2.1 77 68).toInt) rfl (fun h128 => ?_) (fun h128 => ?_))
      · refine to_an (pc := 67) rw_227_67 rfl (tt_gI (pc := 68) rw_227_68 (g_o hG rfl) (v := (N.2.1 77 68)) rfl (b_ine_f (pc := 71) rw_227_71 (A := (N.2.1 77 68).toInt) rfl (by omega) (to_an (pc := 74) rw_227_74 rfl (s_v (pc := 75) rw_227_75 (dp0 hd (by decide)) (ls0 := [.ref 77, .null, .null, .null, .null, .null]) rfl (Nat.le_of_ble_eq_true rfl) (Nat.le_of_ble_eq_true rfl) rfl (to_rc rfl rfl rfl (g_o hG rfl)) rfl (C_225 hX (dp1 hd (by decide)) hG (by omega) g7 g2 (by omega)  (fun r129 M139 hG131 F130 p_132 p_133 p_134 p_135 p_136 p_137 p_138 => ?_))))))
        have F140 := FR.c F0 F130 tg_322
        have b_141 := g_b hG131 (a := 77) (i := 7) (lo := 0) (hi := 500) rfl rfl
        have c_142 : M139.2.1 77 6 = (N.2.1 77 6) := (F_n F130 (show ¬ (77 = 77 ∧ (6 = 4 ∨ 6 = 5 ∨ 7 ≤ 6 ∧ 6 ≤ 10) ∨ 77 = 77 ∧ (6 = 59 ∨ 65 ≤ 6 ∧ 6 ≤ 69) ∨ 112 ≤ 77 ∧ 77 ≤ 114 ∧ 40 ≤ 6 ∨ 77 = 115 ∨ 77 = 116) by decide) rfl)
        have t_143 : (M139.2.1 77 6).toInt = (N.2.1 77 6).toInt := congrArg Int32.toInt c_142
        have b_144 := g_b hG131 (a := 77) (i := 8) (lo := 0) (hi := 5) rfl rfl
        refine b_ieq (pc := 78) rw_227_78 (A := r129.toInt) rfl (fun h145 => ?_) (fun h145 => ?_)
        · refine to_c (pc := 91) rw_227_91 (x := (-1 : Int32)) rfl rfl (to_r0 (pc := 92) rw_227_92 ?_)
          have k_146 : (-1 : Int32).toInt = -1 := rfl
          have j_147 := (FA_f (tg_313 F130) g2)
          have j_148 := (WC_f (tg_314 F130) g3)
          have j_149 := (NJ_f (tg_315 F130) g4)
          have j_150 := (PS_f (tg_316 F130) g5)
          have j_151 := (KQ_f (tg_317 F130) g6)
          have c_152 : M139.2.1 77 1 = (N.2.1 77 1) := (F_n F130 (show ¬ (77 = 77 ∧ (1 = 4 ∨ 1 = 5 ∨ 7 ≤ 1 ∧ 1 ≤ 10) ∨ 77 = 77 ∧ (1 = 59 ∨ 65 ≤ 1 ∧ 1 ≤ 69) ∨ 112 ≤ 77 ∧ 77 ≤ 114 ∧ 40 ≤ 1 ∨ 77 = 115 ∨ 77 = 116) by decide) rfl)
          have t_153 : (M139.2.1 77 1).toInt = (N.2.1 77 1).toInt := congrArg Int32.toInt c_152
          exact h (-1 : Int32) M139 hG131 F140 (by omega) j_147 j_148 j_149 j_150 j_151 (by omega) (by omega)
        · refine to_go (pc := 81) rw_227_81 ?_
          have j_154 := (FA_f (tg_313 F130) g2)
          have j_155 := (WC_f (tg_314 F130) g3)
          have j_156 := (NJ_f (tg_315 F130) g4)
          have j_157 := (PS_f (tg_316 F130) g5)
          have j_158 := (KQ_f (tg_317 F130) g6)
          have c_159 : M139.2.1 77 1 = (N.2.1 77 1) := (F_n F130 (show ¬ (77 = 77 ∧ (1 = 4 ∨ 1 = 5 ∨ 7 ≤ 1 ∧ 1 ≤ 10) ∨ 77 = 77 ∧ (1 = 59 ∨ 65 ≤ 1 ∧ 1 ≤ 69) ∨ 112 ≤ 77 ∧ 77 ≤ 114 ∧ 40 ≤ 1 ∨ 77 = 115 ∨ 77 = 116) by decide) rfl)
          have t_160 : (M139.2.1 77 1).toInt = (N.2.1 77 1).toInt := congrArg Int32.toInt c_159
          exact ih M139 (u1) (u2) hG131 F140 (by omega) j_154 j_155 j_156 j_157 j_158 (p_138 (by omega)) (by omega) (by omega) (by omega) (by omega)
      · refine to_an (pc := 60) rw_227_60 rfl ?_
        have b_161 := g_b hG (a := 77) (i := 67) (lo := 0) (hi := 8) rfl rfl
        refine tt_gI (pc := 61) rw_227_61 (g_o hG rfl) (v := (N.2.1 77 67)) rfl (b_ile (pc := 64) rw_227_64 (A := (N.2.1 77 67).toInt) rfl (fun h162 => ?_) (fun h162 => ?_))
        · refine to_an (pc := 93) rw_227_93 rfl (to_c (pc := 94) rw_227_94 (x := (1 : Int32)) rfl rfl (s_v (pc := 95) rw_227_95 (dp0 hd (by decide)) (ls0 := [.ref 77, .int (1 : Int32), .null, .null, .null]) rfl (Nat.le_of_ble_eq_true rfl) (Nat.le_of_ble_eq_true rfl) rfl (to_rc rfl rfl rfl (g_o hG rfl)) rfl ?_))
          have k_163 : (1 : Int32).toInt = 1 := rfl
          refine C_223 hX (dp1 hd (by decide)) hG (by omega) (by omega) (by omega) g7 (l := (1 : Int32)) (fun M169 hG165 F164 p_166 p_167 p_168 => ?_)
          have F170 := FR.c F0 F164 tg_323
          have s_171 := QK_e p_166
          have s_172 := Wx_b M169 ((M169.2.1 77 65).toInt).toNat
          have b_173 := g_b hG165 (a := 77) (i := 59) (lo := 0) (hi := 40) rfl rfl
          have b_174 := g_b hG165 (a := 77) (i := 65) (lo := 0) (hi := 48) rfl rfl
          have b_175 := g_b hG165 (a := 77) (i := 66) (lo := 0) (hi := 40) rfl rfl
          have c_176 : M169.2.1 77 67 = (N.2.1 77 67) := (F_n F164 (show ¬ (77 = 77 ∧ (67 = 59 ∨ 67 = 65 ∨ 67 = 66) ∨ 112 ≤ 77 ∧ 77 ≤ 114 ∧ 40 ≤ 67 ∨ 77 = 116) by decide) rfl)
          have t_177 : (M169.2.1 77 67).toInt = (N.2.1 77 67).toInt := congrArg Int32.toInt c_176
          have c_178 : M169.2.1 77 68 = (N.2.1 77 68) := (F_n F164 (show ¬ (77 = 77 ∧ (68 = 59 ∨ 68 = 65 ∨ 68 = 66) ∨ 112 ≤ 77 ∧ 77 ≤ 114 ∧ 40 ≤ 68 ∨ 77 = 116) by decide) rfl)
          have t_179 : (M169.2.1 77 68).toInt = (N.2.1 77 68).toInt := congrArg Int32.toInt c_178
          have c_180 : M169.2.1 77 69 = (N.2.1 77 69) := (F_n F164 (show ¬ (77 = 77 ∧ (69 = 59 ∨ 69 = 65 ∨ 69 = 66) ∨ 112 ≤ 77 ∧ 77 ≤ 114 ∧ 40 ≤ 69 ∨ 77 = 116) by decide) rfl)
          have b_181 := g_b hG (a := 77) (i := 69) (lo := 0) (hi := 40) rfl rfl
          have t_182 : (M169.2.1 77 69).toInt = (N.2.1 77 69).toInt := congrArg Int32.toInt c_180
          refine to_an (pc := 98) rw_227_98 rfl (to_an (pc := 99) rw_227_99 rfl (tt_gI (pc := 100) rw_227_100 (g_o hG165 rfl) (v := (M169.2.1 77 59)) rfl (s_pI (pc := 103) rw_227_103 hG165 rfl (fun M184 W183 => ?_))))
          have hG185 := g_w hG165 W183 (A := (M169.2.1 77 59).toInt) rfl (lo := 0) (hi := 40) rfl rfl (by omega) (by decide)
          have F186 := FR.w F170 W183 (show 77 = 77 ∧ (1 ≤ 58 ∧ 58 ≤ 2 ∨ 4 ≤ 58 ∧ 58 ≤ 10 ∨ 57 ≤ 58 ∧ 58 ≤ 59 ∨ 65 ≤ 58 ∧ 58 ≤ 69) ∨ 112 ≤ 77 ∧ 77 ≤ 116 by decide)
          refine to_an (pc := 106) rw_227_106 rfl (to_c (pc := 107) rw_227_107 (x := (1 : Int32)) rfl rfl (s_pZ (pc := 108) rw_227_108 hG185 rfl (A := 1) rfl (by omega) (fun M188 W187 => ?_)))
          have hG189 := g_w hG185 W187 (A := 1) rfl (lo := 0) (hi := 1) rfl rfl (by omega) (by decide)
          have F190 := FR.w F186 W187 (show 77 = 77 ∧ (1 ≤ 57 ∧ 57 ≤ 2 ∨ 4 ≤ 57 ∧ 57 ≤ 10 ∨ 57 ≤ 57 ∧ 57 ≤ 59 ∨ 65 ≤ 57 ∧ 57 ≤ 69) ∨ 112 ≤ 77 ∧ 77 ≤ 116 by decide)
          refine to_c (pc := 111) rw_227_111 (x := (0 : Int32)) rfl rfl (to_isn (pc := 112) rw_227_112 (ls2 := [.ref 77, u1, .int (0 : Int32)]) rfl rfl ?_)
          have k_191 : (0 : Int32).toInt = 0 := rfl
          have c_192 : M188.2.1 77 58 = (M169.2.1 77 59) := (W_n W187 (by decide) (W_e W183))
          have t_193 : (M188.2.1 77 58).toInt = (M169.2.1 77 59).toInt := congrArg Int32.toInt c_192
          have c_194 : M188.2.1 77 7 = (N.2.1 77 7) := (W_n W187 (by decide) (W_n W183 (by decide) (F_n F164 (show ¬ (77 = 77 ∧ (7 = 59 ∨ 7 = 65 ∨ 7 = 66) ∨ 112 ≤ 77 ∧ 77 ≤ 114 ∧ 40 ≤ 7 ∨ 77 = 116) by decide) rfl)))
          have t_195 : (M188.2.1 77 7).toInt = (N.2.1 77 7).toInt := congrArg Int32.toInt c_194
          have c_196 : M188.2.1 77 6 = (N.2.1 77 6) := (W_n W187 (by decide) (W_n W183 (by decide) (F_n F164 (show ¬ (77 = 77 ∧ (6 = 59 ∨ 6 = 65 ∨ 6 = 66) ∨ 112 ≤ 77 ∧ 77 ≤ 114 ∧ 40 ≤ 6 ∨ 77 = 116) by decide) rfl)))
          have t_197 : (M188.2.1 77 6).toInt = (N.2.1 77 6).toInt := congrArg Int32.toInt c_196
          have j_198 := (FA_f (fun a i z => W_n W187 (tg_250 a i z) rfl) (FA_f (fun a i z => W_n W183 (tg_251 a i z) rfl) (FA_f (tg_318 F164) g2)))
          have j_199 := (WC_f (fun a i z => W_n W187 (by /-r77,57-/ omega) rfl) (WC_f (fun a i z => W_n W183 (by /-r77,58-/ omega) rfl) (WC_f (tg_319 F164) g3)))
          have j_200 := (NJ_f (fun a i z => W_n W187 (by /-r77,57-/ omega) rfl) (NJ_f (fun a i z => W_n W183 (by /-r77,58-/ omega) rfl) (NJ_f (tg_320 F164) g4)))
          have j_201 := (PS_f (fun a i z => W_n W187 (tg_331 a i z) rfl) (PS_f (fun a i z => W_n W183 (tg_332 a i z) rfl) (PS_f (tg_321 F164) g5)))
          have c_202 : M188.2.1 77 1 = (N.2.1 77 1) := (W_n W187 (by decide) (W_n W183 (by decide) (F_n F164 (show ¬ (77 = 77 ∧ (1 = 59 ∨ 1 = 65 ∨ 1 = 66) ∨ 112 ≤ 77 ∧ 77 ≤ 114 ∧ 40 ≤ 1 ∨ 77 = 116) by decide) rfl)))
          have t_203 : (M188.2.1 77 1).toInt = (N.2.1 77 1).toInt := congrArg Int32.toInt c_202
          exact (T_227_0 (n := n) hX hd q1 q2 q3 q4 q5 q6 h ((40 - (0 : Int32).toInt).toNat + 1)) M188 (u1) (0 : Int32) hG189 F190 (by omega) (by omega) (by omega) (fun a j _ z => absurd z (by omega)) (by rw [c_192]; exact KN_f (fun a i z => (W_n W187 (by /-r77,57-/ omega) (W_n W183 (by /-r77,58-/ omega) rfl))) p_166.2.2) (by omega) j_198 j_199 j_200 j_201 (by omega) (by omega) (by omega) (by omega)
        · refine to_an (pc := 67) rw_227_67 rfl (tt_gI (pc := 68) rw_227_68 (g_o hG rfl) (v := (N.2.1 77 68)) rfl (b_ine_t (pc := 71) rw_227_71 (A := (N.2.1 77 68).toInt) rfl (by omega) (to_an (pc := 84) rw_227_84 rfl (s_v (pc := 85) rw_227_85 (dp0 hd (by decide)) (ls0 := [.ref 77, .null]) rfl (Nat.le_of_ble_eq_true rfl) (Nat.le_of_ble_eq_true rfl) rfl (to_rc rfl rfl rfl (g_o hG rfl)) rfl (C_226 hX (dp1 hd (by decide)) hG (by omega) g7 (by omega)  (fun r204 M214 hG206 F205 p_207 p_208 p_209 p_210 p_211 p_212 p_213 => ?_))))))
          have F215 := FR.c F0 F205 tg_322
          have b_216 := g_b hG206 (a := 77) (i := 7) (lo := 0) (hi := 500) rfl rfl
          have c_217 : M214.2.1 77 6 = (N.2.1 77 6) := (F_n F205 (show ¬ (77 = 77 ∧ (6 = 4 ∨ 6 = 5 ∨ 7 ≤ 6 ∧ 6 ≤ 10) ∨ 77 = 77 ∧ (6 = 59 ∨ 65 ≤ 6 ∧ 6 ≤ 69) ∨ 112 ≤ 77 ∧ 77 ≤ 114 ∧ 40 ≤ 6 ∨ 77 = 115 ∨ 77 = 116) by decide) rfl)
          have t_218 : (M214.2.1 77 6).toInt = (N.2.1 77 6).toInt := congrArg Int32.toInt c_217
          have b_219 := g_b hG206 (a := 77) (i := 8) (lo := 0) (hi := 5) rfl rfl
          refine b_ine (pc := 88) rw_227_88 (A := r204.toInt) rfl (fun h220 => ?_) (fun h220 => ?_)
          · have j_221 := (FA_f (tg_313 F205) g2)
            have j_222 := (WC_f (tg_314 F205) g3)
            have j_223 := (NJ_f (tg_315 F205) g4)
            have j_224 := (PS_f (tg_316 F205) g5)
            have j_225 := (KQ_f (tg_317 F205) g6)
            have c_226 : M214.2.1 77 1 = (N.2.1 77 1) := (F_n F205 (show ¬ (77 = 77 ∧ (1 = 4 ∨ 1 = 5 ∨ 7 ≤ 1 ∧ 1 ≤ 10) ∨ 77 = 77 ∧ (1 = 59 ∨ 65 ≤ 1 ∧ 1 ≤ 69) ∨ 112 ≤ 77 ∧ 77 ≤ 114 ∧ 40 ≤ 1 ∨ 77 = 115 ∨ 77 = 116) by decide) rfl)
            have t_227 : (M214.2.1 77 1).toInt = (N.2.1 77 1).toInt := congrArg Int32.toInt c_226
            exact ih M214 (u1) (u2) hG206 F215 (by omega) j_221 j_222 j_223 j_224 j_225 (p_213 (by omega)) (by omega) (by omega) (by omega) (by omega)
          · refine to_c (pc := 91) rw_227_91 (x := (-1 : Int32)) rfl rfl (to_r0 (pc := 92) rw_227_92 ?_)
            have k_228 : (-1 : Int32).toInt = -1 := rfl
            have j_229 := (FA_f (tg_313 F205) g2)
            have j_230 := (WC_f (tg_314 F205) g3)
            have j_231 := (NJ_f (tg_315 F205) g4)
            have j_232 := (PS_f (tg_316 F205) g5)
            have j_233 := (KQ_f (tg_317 F205) g6)
            have c_234 : M214.2.1 77 1 = (N.2.1 77 1) := (F_n F205 (show ¬ (77 = 77 ∧ (1 = 4 ∨ 1 = 5 ∨ 7 ≤ 1 ∧ 1 ≤ 10) ∨ 77 = 77 ∧ (1 = 59 ∨ 65 ≤ 1 ∧ 1 ≤ 69) ∨ 112 ≤ 77 ∧ 77 ≤ 114 ∧ 40 ≤ 1 ∨ 77 = 115 ∨ 77 = 116) by decide) rfl)
            have t_235 : (M214.2.1 77 1).toInt = (N.2.1 77 1).toInt := congrArg Int32.toInt c_234
            exact h (-1 : Int32) M214 hG206 F215 (by omega) j_229 j_230 j_231 j_232 j_233 (by omega) (by omega)
set_option maxRecDepth 4000 in
set_option maxHeartbeats 0 in
theorem C_227 {X : mm_X} {d : Nat} {M : mm_M} {Q : Option Value → mm_M → Prop} {n : Int32} (hX : g_X X) (hd : 3 ≤ d) (hG : g_G M) (q1 : (M.2.1 77 7).toInt ≤ (M.2.1 77 6).toInt) (q2 : FA M) (q3 : WC M) (q4 : NJ M) (q5 : PS M) (q6 : KQ M) (h : ∀ (r : Int32) (M1 : mm_M), g_G M1 → FR md_qu M M1 → ((M1.2.1 77 7).toInt ≤ (M1.2.1 77 6).toInt) → FA M1 → WC M1 → NJ M1 → PS M1 → KQ M1 → (n.toInt < 0 ∨ (M.2.1 77 1).toInt < n.toInt → (M1.2.1 77 1).toInt = (M.2.1 77 1).toInt) → (0 ≤ n.toInt ∧ n.toInt ≤ (M.2.1 77 1).toInt → (M1.2.1 77 1).toInt = 0) → Q (some (.int r)) M1) : mm_T X d 226 0 [.ref 77, .int n, .null] [] M Q := by
  have F0 : FR md_qu M M := FR.rf
  have b_236 := g_b hG (a := 77) (i := 7) (lo := 0) (hi := 500) rfl rfl
  have b_237 := g_b hG (a := 77) (i := 6) (lo := 0) (hi := 500) rfl rfl
  refine to_an (pc := 0) rw_227_0 rfl (to_c (pc := 1) rw_227_1 (x := (0 : Int32)) rfl rfl (s_pI (pc := 2) rw_227_2 hG rfl (fun M239 W238 => ?_)))
  have hG240 := g_wf hG W238 rfl rfl (by decide)
  have F241 := FR.w F0 W238 (show 77 = 77 ∧ (1 ≤ 2 ∧ 2 ≤ 2 ∨ 4 ≤ 2 ∧ 2 ≤ 10 ∨ 57 ≤ 2 ∧ 2 ≤ 59 ∨ 65 ≤ 2 ∧ 2 ≤ 69) ∨ 112 ≤ 77 ∧ 77 ≤ 116 by decide)
  refine to_an (pc := 5) rw_227_5 rfl (to_in (pc := 6) rw_227_6 rfl (s_v (pc := 7) rw_227_7 (dp0 hd (by decide)) (ls0 := [.ref 77, .int n]) rfl (Nat.le_of_ble_eq_true rfl) (Nat.le_of_ble_eq_true rfl) rfl (to_rc rfl rfl rfl (g_o hG240 rfl)) rfl ?_))
  have c_242 : M239.2.1 77 1 = (M.2.1 77 1) := (W_n W238 (by decide) rfl)
  have b_243 := g_b hG (a := 77) (i := 1) (lo := 0) (hi := 500) rfl rfl
  have t_244 : (M239.2.1 77 1).toInt = (M.2.1 77 1).toInt := congrArg Int32.toInt c_242
  have c_245 : M239.2.1 77 7 = (M.2.1 77 7) := (W_n W238 (by decide) rfl)
  have t_246 : (M239.2.1 77 7).toInt = (M.2.1 77 7).toInt := congrArg Int32.toInt c_245
  have c_247 : M239.2.1 77 6 = (M.2.1 77 6) := (W_n W238 (by decide) rfl)
  have t_248 : (M239.2.1 77 6).toInt = (M.2.1 77 6).toInt := congrArg Int32.toInt c_247
  refine C_163 hX (dp1 hd (by decide)) hG240 (by omega) (n := n) (fun r249 M257 hG251 F250 p_252 p_253 p_254 p_255 p_256 => ?_)
  have F258 := FR.c F241 F250 tg_324
  have b_259 := g_b hG251 (a := 77) (i := 7) (lo := 0) (hi := 500) rfl rfl
  have b_260 := g_b hG251 (a := 77) (i := 6) (lo := 0) (hi := 500) rfl rfl
  have b_261 := g_b hG251 (a := 77) (i := 1) (lo := 0) (hi := 500) rfl rfl
  refine b_ine (pc := 10) rw_227_10 (A := r249.toInt) rfl (fun h262 => ?_) (fun h262 => ?_)
  · refine to_an (pc := 16) rw_227_16 rfl (to_c (pc := 17) rw_227_17 (x := (0 : Int32)) rfl rfl (s_pI (pc := 18) rw_227_18 hG251 rfl (fun M264 W263 => ?_)))
    have hG265 := g_w hG251 W263 (A := 0) rfl (lo := 0) (hi := 40) rfl rfl (by omega) (by decide)
    have F266 := FR.w F258 W263 (show 77 = 77 ∧ (1 ≤ 59 ∧ 59 ≤ 2 ∨ 4 ≤ 59 ∧ 59 ≤ 10 ∨ 57 ≤ 59 ∧ 59 ≤ 59 ∨ 65 ≤ 59 ∧ 59 ≤ 69) ∨ 112 ≤ 77 ∧ 77 ≤ 116 by decide)
    refine to_an (pc := 21) rw_227_21 rfl (to_c (pc := 22) rw_227_22 (x := (0 : Int32)) rfl rfl (s_pI (pc := 23) rw_227_23 hG265 rfl (fun M268 W267 => ?_)))
    have hG269 := g_w hG265 W267 (A := 0) rfl (lo := 0) (hi := 40) rfl rfl (by omega) (by decide)
    have F270 := FR.w F266 W267 (show 77 = 77 ∧ (1 ≤ 69 ∧ 69 ≤ 2 ∨ 4 ≤ 69 ∧ 69 ≤ 10 ∨ 57 ≤ 69 ∧ 69 ≤ 59 ∨ 65 ≤ 69 ∧ 69 ≤ 69) ∨ 112 ≤ 77 ∧ 77 ≤ 116 by decide)
    refine to_an (pc := 26) rw_227_26 rfl (to_c (pc := 27) rw_227_27 (x := (0 : Int32)) rfl rfl (s_pI (pc := 28) rw_227_28 hG269 rfl (fun M272 W271 => ?_)))
    have hG273 := g_w hG269 W271 (A := 0) rfl (lo := 0) (hi := 48) rfl rfl (by omega) (by decide)
    have F274 := FR.w F270 W271 (show 77 = 77 ∧ (1 ≤ 65 ∧ 65 ≤ 2 ∨ 4 ≤ 65 ∧ 65 ≤ 10 ∨ 57 ≤ 65 ∧ 65 ≤ 59 ∨ 65 ≤ 65 ∧ 65 ≤ 69) ∨ 112 ≤ 77 ∧ 77 ≤ 116 by decide)
    refine to_an (pc := 31) rw_227_31 rfl (to_c (pc := 32) rw_227_32 (x := (0 : Int32)) rfl rfl (s_pI (pc := 33) rw_227_33 hG273 rfl (fun M276 W275 => ?_)))
    have hG277 := g_w hG273 W275 (A := 0) rfl (lo := 0) (hi := 40) rfl rfl (by omega) (by decide)
    have F278 := FR.w F274 W275 (show 77 = 77 ∧ (1 ≤ 66 ∧ 66 ≤ 2 ∨ 4 ≤ 66 ∧ 66 ≤ 10 ∨ 57 ≤ 66 ∧ 66 ≤ 59 ∨ 65 ≤ 66 ∧ 66 ≤ 69) ∨ 112 ≤ 77 ∧ 77 ≤ 116 by decide)
    refine to_an (pc := 36) rw_227_36 rfl (to_c (pc := 37) rw_227_37 (x := (0 : Int32)) rfl rfl (s_pI (pc := 38) rw_227_38 hG277 rfl (fun M280 W279 => ?_)))
    have hG281 := g_w hG277 W279 (A := 0) rfl (lo := 0) (hi := 8) rfl rfl (by omega) (by decide)
    have F282 := FR.w F278 W279 (show 77 = 77 ∧ (1 ≤ 67 ∧ 67 ≤ 2 ∨ 4 ≤ 67 ∧ 67 ≤ 10 ∨ 57 ≤ 67 ∧ 67 ≤ 59 ∨ 65 ≤ 67 ∧ 67 ≤ 69) ∨ 112 ≤ 77 ∧ 77 ≤ 116 by decide)
    refine to_an (pc := 41) rw_227_41 rfl (to_c (pc := 42) rw_227_42 (x := (0 : Int32)) rfl rfl (s_pI (pc := 43) rw_227_43 hG281 rfl (fun M284 W283 => ?_)))
    have hG285 := g_w hG281 W283 (A := 0) rfl (lo := 0) (hi := 1) rfl rfl (by omega) (by decide)
    have F286 := FR.w F282 W283 (show 77 = 77 ∧ (1 ≤ 68 ∧ 68 ≤ 2 ∨ 4 ≤ 68 ∧ 68 ≤ 10 ∨ 57 ≤ 68 ∧ 68 ≤ 59 ∨ 65 ≤ 68 ∧ 68 ≤ 69) ∨ 112 ≤ 77 ∧ 77 ≤ 116 by decide)
    have c_287 : M284.2.1 77 59 = (0 : Int32) := (W_n W283 (by decide) (W_n W279 (by decide) (W_n W275 (by decide) (W_n W271 (by decide) (W_n W267 (by decide) (W_e W263))))))
    have k_288 : (0 : Int32).toInt = 0 := rfl
    have t_289 : (M284.2.1 77 59).toInt = (0 : Int32).toInt := congrArg Int32.toInt c_287
    have c_290 : M284.2.1 77 65 = (0 : Int32) := (W_n W283 (by decide) (W_n W279 (by decide) (W_n W275 (by decide) (W_e W271))))
    have t_291 : (M284.2.1 77 65).toInt = (0 : Int32).toInt := congrArg Int32.toInt c_290
    have c_292 : M284.2.1 77 66 = (0 : Int32) := (W_n W283 (by decide) (W_n W279 (by decide) (W_e W275)))
    have t_293 : (M284.2.1 77 66).toInt = (0 : Int32).toInt := congrArg Int32.toInt c_292
    have c_294 : M284.2.1 77 67 = (0 : Int32) := (W_n W283 (by decide) (W_e W279))
    have t_295 : (M284.2.1 77 67).toInt = (0 : Int32).toInt := congrArg Int32.toInt c_294
    have c_296 : M284.2.1 77 68 = (0 : Int32) := (W_e W283)
    have t_297 : (M284.2.1 77 68).toInt = (0 : Int32).toInt := congrArg Int32.toInt c_296
    have c_298 : M284.2.1 77 69 = (0 : Int32) := (W_n W283 (by decide) (W_n W279 (by decide) (W_n W275 (by decide) (W_n W271 (by decide) (W_e W267)))))
    have t_299 : (M284.2.1 77 69).toInt = (0 : Int32).toInt := congrArg Int32.toInt c_298
    have j_300 : QK M284 := QK_0 (by omega) (by omega) (by omega) (by omega) (by omega) (by omega)
    have c_301 : M284.2.1 77 7 = (M257.2.1 77 7) := (W_n W283 (by decide) (W_n W279 (by decide) (W_n W275 (by decide) (W_n W271 (by decide) (W_n W267 (by decide) (W_n W263 (by decide) rfl))))))
    have t_302 : (M284.2.1 77 7).toInt = (M257.2.1 77 7).toInt := congrArg Int32.toInt c_301
    have c_303 : M284.2.1 77 6 = (M257.2.1 77 6) := (W_n W283 (by decide) (W_n W279 (by decide) (W_n W275 (by decide) (W_n W271 (by decide) (W_n W267 (by decide) (W_n W263 (by decide) rfl))))))
    have t_304 : (M284.2.1 77 6).toInt = (M257.2.1 77 6).toInt := congrArg Int32.toInt c_303
    have j_305 := (FA_f (fun a i z => W_n W283 (tg_312 a i z) rfl) (FA_f (fun a i z => W_n W279 (tg_333 a i z) rfl) (FA_f (fun a i z => W_n W275 (tg_334 a i z) rfl) (FA_f (fun a i z => W_n W271 (tg_335 a i z) rfl) (FA_f (fun a i z => W_n W267 (tg_311 a i z) rfl) (FA_f (fun a i z => W_n W263 (tg_336 a i z) rfl) (FA_f (tg_239 F250) (FA_f (fun a i z => W_n W238 (tg_94 a i z) rfl) q2))))))))
    have j_306 := (WC_f (fun a i z => W_n W283 (by /-r77,68-/ omega) rfl) (WC_f (fun a i z => W_n W279 (by /-r77,67-/ omega) rfl) (WC_f (fun a i z => W_n W275 (by /-r77,66-/ omega) rfl) (WC_f (fun a i z => W_n W271 (by /-r77,65-/ omega) rfl) (WC_f (fun a i z => W_n W267 (by /-r77,69-/ omega) rfl) (WC_f (fun a i z => W_n W263 (by /-r77,59-/ omega) rfl) (WC_f (tg_241 F250) (WC_f (fun a i z => W_n W238 (by /-r77,2-/ omega) rfl) q3))))))))
    have j_307 := (NJ_f (fun a i z => W_n W283 (by /-r77,68-/ omega) rfl) (NJ_f (fun a i z => W_n W279 (by /-r77,67-/ omega) rfl) (NJ_f (fun a i z => W_n W275 (by /-r77,66-/ omega) rfl) (NJ_f (fun a i z => W_n W271 (by /-r77,65-/ omega) rfl) (NJ_f (fun a i z => W_n W267 (by /-r77,69-/ omega) rfl) (NJ_f (fun a i z => W_n W263 (by /-r77,59-/ omega) rfl) (NJ_f (tg_243 F250) (NJ_f (fun a i z => W_n W238 (by /-r77,2-/ omega) rfl) q4))))))))
    have j_308 := (PS_f (fun a i z => W_n W283 (tg_337 a i z) rfl) (PS_f (fun a i z => W_n W279 (tg_338 a i z) rfl) (PS_f (fun a i z => W_n W275 (tg_339 a i z) rfl) (PS_f (fun a i z => W_n W271 (tg_340 a i z) rfl) (PS_f (fun a i z => W_n W267 (tg_341 a i z) rfl) (PS_f (fun a i z => W_n W263 (tg_342 a i z) rfl) (PS_f (tg_245 F250) (PS_f (fun a i z => W_n W238 (tg_259 a i z) rfl) q5))))))))
    have j_309 := (KQ_f (fun a i z => W_n W283 (by /-r77,68-/ omega) rfl) (KQ_f (fun a i z => W_n W279 (by /-r77,67-/ omega) rfl) (KQ_f (fun a i z => W_n W275 (by /-r77,66-/ omega) rfl) (KQ_f (fun a i z => W_n W271 (by /-r77,65-/ omega) rfl) (KQ_f (fun a i z => W_n W267 (by /-r77,69-/ omega) rfl) (KQ_f (fun a i z => W_n W263 (by /-r77,59-/ omega) rfl) (KQ_f (tg_247 F250) (KQ_f (fun a i z => W_n W238 (by /-r77,2-/ omega) rfl) q6))))))))
    have c_310 : M284.2.1 77 1 = (M257.2.1 77 1) := (W_n W283 (by decide) (W_n W279 (by decide) (W_n W275 (by decide) (W_n W271 (by decide) (W_n W267 (by decide) (W_n W263 (by decide) rfl))))))
    have t_311 : (M284.2.1 77 1).toInt = (M257.2.1 77 1).toInt := congrArg Int32.toInt c_310
    have c_312 : M284.2.1 77 8 = (M257.2.1 77 8) := (W_n W283 (by decide) (W_n W279 (by decide) (W_n W275 (by decide) (W_n W271 (by decide) (W_n W267 (by decide) (W_n W263 (by decide) rfl))))))
    have b_313 := g_b hG251 (a := 77) (i := 8) (lo := 0) (hi := 5) rfl rfl
    have t_314 : (M284.2.1 77 8).toInt = (M257.2.1 77 8).toInt := congrArg Int32.toInt c_312
    exact (T_227_1 (n := n) hX hd q1 q2 q3 q4 q5 q6 h ((6 * (500 - (M284.2.1 77 7).toInt) + (M284.2.1 77 8).toInt).toNat + 1)) M284 (.int n) (.null) hG285 F286 (by omega) j_305 j_306 j_307 j_308 j_309 j_300 (by omega) (by omega) (by omega) (by omega)
  · refine to_c (pc := 13) rw_227_13 (x := (-2 : Int32)) rfl rfl (to_r0 (pc := 15) rw_227_15 ?_)
    have k_315 : (-2 : Int32).toInt = -2 := rfl
    have j_316 := (FA_f (tg_239 F250) (FA_f (fun a i z => W_n W238 (tg_94 a i z) rfl) q2))
    have j_317 := (WC_f (tg_241 F250) (WC_f (fun a i z => W_n W238 (by /-r77,2-/ omega) rfl) q3))
    have j_318 := (NJ_f (tg_243 F250) (NJ_f (fun a i z => W_n W238 (by /-r77,2-/ omega) rfl) q4))
    have j_319 := (PS_f (tg_245 F250) (PS_f (fun a i z => W_n W238 (tg_259 a i z) rfl) q5))
    have j_320 := (KQ_f (tg_247 F250) (KQ_f (fun a i z => W_n W238 (by /-r77,2-/ omega) rfl) q6))
    exact h (-2 : Int32) M257 hG251 F258 (by omega) j_316 j_317 j_318 j_319 j_320 (by omega) (by omega)
