theorem tg_394 {M M1 : mm_M} (F : FR (fun a i : Nat => a = 77 ∧ (i = 4 ∨ i = 5 ∨ 7 ≤ i ∧ i ≤ 10) ∨ a = 77 ∧ (i = 59 ∨ 65 ≤ i ∧ i ≤ 69) ∨ 112 ≤ a ∧ a ≤ 114 ∧ 40 ≤ i ∨ a = 115 ∨ a = 116) M M1) : ∀ a i : Nat, (81 ≤ a ∧ a ≤ 84) → M1.2.1 a i = M.2.1 a i := fun a i z => F_n F (show ¬ (a = 77 ∧ (i = 4 ∨ i = 5 ∨ 7 ≤ i ∧ i ≤ 10) ∨ a = 77 ∧ (i = 59 ∨ 65 ≤ i ∧ i ≤ 69) ∨ 112 ≤ a ∧ a ≤ 114 ∧ 40 ≤ i ∨ a = 115 ∨ a = 116) by omega) rfl
theorem tg_395 {M M1 : mm_M} (F : FR (fun a i : Nat => a = 77 ∧ (i = 4 ∨ i = 5 ∨ 7 ≤ i ∧ i ≤ 10) ∨ a = 77 ∧ (i = 59 ∨ 65 ≤ i ∧ i ≤ 69) ∨ 112 ≤ a ∧ a ≤ 114 ∧ 40 ≤ i ∨ a = 115 ∨ a = 116) M M1) : ∀ a i : Nat, WC_r a i → M1.2.1 a i = M.2.1 a i := fun a i z => F_n F (show ¬ (a = 77 ∧ (i = 4 ∨ i = 5 ∨ 7 ≤ i ∧ i ≤ 10) ∨ a = 77 ∧ (i = 59 ∨ 65 ≤ i ∧ i ≤ 69) ∨ 112 ≤ a ∧ a ≤ 114 ∧ 40 ≤ i ∨ a = 115 ∨ a = 116) by omega) rfl
theorem tg_396 {M M1 : mm_M} (F : FR (fun a i : Nat => a = 77 ∧ (i = 4 ∨ i = 5 ∨ 7 ≤ i ∧ i ≤ 10) ∨ a = 77 ∧ (i = 59 ∨ 65 ≤ i ∧ i ≤ 69) ∨ 112 ≤ a ∧ a ≤ 114 ∧ 40 ≤ i ∨ a = 115 ∨ a = 116) M M1) : ∀ a i : Nat, NJ_r a i → M1.2.1 a i = M.2.1 a i := fun a i z => F_n F (show ¬ (a = 77 ∧ (i = 4 ∨ i = 5 ∨ 7 ≤ i ∧ i ≤ 10) ∨ a = 77 ∧ (i = 59 ∨ 65 ≤ i ∧ i ≤ 69) ∨ 112 ≤ a ∧ a ≤ 114 ∧ 40 ≤ i ∨ a = 115 ∨ a = 116) by omega) rfl
theorem tg_397 {M M1 : mm_M} (F : FR (fun a i : Nat => a = 77 ∧ (i = 4 ∨ i = 5 ∨ 7 ≤ i ∧ i ≤ 10) ∨ a = 77 ∧ (i = 59 ∨ 65 ≤ i ∧ i ≤ 69) ∨ 112 ≤ a ∧ a ≤ 114 ∧ 40 ≤ i ∨ a = 115 ∨ a = 116) M M1) : ∀ a i : Nat, (a = 100 ∨ a = 77 ∧ i = 28) → M1.2.1 a i = M.2.1 a i := fun a i z => F_n F (show ¬ (a = 77 ∧ (i = 4 ∨ i = 5 ∨ 7 ≤ i ∧ i ≤ 10) ∨ a = 77 ∧ (i = 59 ∨ 65 ≤ i ∧ i ≤ 69) ∨ 112 ≤ a ∧ a ≤ 114 ∧ 40 ≤ i ∨ a = 115 ∨ a = 116) by omega) rfl
theorem tg_398 {M M1 : mm_M} (F : FR (fun a i : Nat => a = 77 ∧ (i = 4 ∨ i = 5 ∨ 7 ≤ i ∧ i ≤ 10) ∨ a = 77 ∧ (i = 59 ∨ 65 ≤ i ∧ i ≤ 69) ∨ 112 ≤ a ∧ a ≤ 114 ∧ 40 ≤ i ∨ a = 115 ∨ a = 116) M M1) : ∀ a i : Nat, KQ_r a i → M1.2.1 a i = M.2.1 a i := fun a i z => F_n F (show ¬ (a = 77 ∧ (i = 4 ∨ i = 5 ∨ 7 ≤ i ∧ i ≤ 10) ∨ a = 77 ∧ (i = 59 ∨ 65 ≤ i ∧ i ≤ 69) ∨ 112 ≤ a ∧ a ≤ 114 ∧ 40 ≤ i ∨ a = 115 ∨ a = 116) by omega) rfl
theorem tg_399 {M M1 : mm_M} (F : FR (fun a i : Nat => a = 77 ∧ (i = 59 ∨ i = 65 ∨ i = 66) ∨ 112 ≤ a ∧ a ≤ 114 ∧ 40 ≤ i ∨ a = 116) M M1) : ∀ a i : Nat, (81 ≤ a ∧ a ≤ 84) → M1.2.1 a i = M.2.1 a i := fun a i z => F_n F (show ¬ (a = 77 ∧ (i = 59 ∨ i = 65 ∨ i = 66) ∨ 112 ≤ a ∧ a ≤ 114 ∧ 40 ≤ i ∨ a = 116) by omega) rfl
theorem tg_400 {M M1 : mm_M} (F : FR (fun a i : Nat => a = 77 ∧ (i = 59 ∨ i = 65 ∨ i = 66) ∨ 112 ≤ a ∧ a ≤ 114 ∧ 40 ≤ i ∨ a = 116) M M1) : ∀ a i : Nat, WC_r a i → M1.2.1 a i = M.2.1 a i := fun a i z => F_n F (show ¬ (a = 77 ∧ (i = 59 ∨ i = 65 ∨ i = 66) ∨ 112 ≤ a ∧ a ≤ 114 ∧ 40 ≤ i ∨ a = 116) by omega) rfl
theorem tg_401 {M M1 : mm_M} (F : FR (fun a i : Nat => a = 77 ∧ (i = 59 ∨ i = 65 ∨ i = 66) ∨ 112 ≤ a ∧ a ≤ 114 ∧ 40 ≤ i ∨ a = 116) M M1) : ∀ a i : Nat, NJ_r a i → M1.2.1 a i = M.2.1 a i := fun a i z => F_n F (show ¬ (a = 77 ∧ (i = 59 ∨ i = 65 ∨ i = 66) ∨ 112 ≤ a ∧ a ≤ 114 ∧ 40 ≤ i ∨ a = 116) by omega) rfl
theorem tg_402 {M M1 : mm_M} (F : FR (fun a i : Nat => a = 77 ∧ (i = 59 ∨ i = 65 ∨ i = 66) ∨ 112 ≤ a ∧ a ≤ 114 ∧ 40 ≤ i ∨ a = 116) M M1) : ∀ a i : Nat, (a = 100 ∨ a = 77 ∧ i = 28) → M1.2.1 a i = M.2.1 a i := fun a i z => F_n F (show ¬ (a = 77 ∧ (i = 59 ∨ i = 65 ∨ i = 66) ∨ 112 ≤ a ∧ a ≤ 114 ∧ 40 ≤ i ∨ a = 116) by omega) rfl
theorem tg_403 : ∀ a i : Nat, (a = 77 ∧ (i = 4 ∨ i = 5 ∨ 7 ≤ i ∧ i ≤ 10) ∨ a = 77 ∧ (i = 59 ∨ 65 ≤ i ∧ i ≤ 69) ∨ 112 ≤ a ∧ a ≤ 114 ∧ 40 ≤ i ∨ a = 115 ∨ a = 116) → (a = 77 ∧ (1 ≤ i ∧ i ≤ 2 ∨ 4 ≤ i ∧ i ≤ 10 ∨ 57 ≤ i ∧ i ≤ 59 ∨ 65 ≤ i ∧ i ≤ 69) ∨ 112 ≤ a ∧ a ≤ 116) := fun a i z => by omega
theorem tg_404 : ∀ a i : Nat, (a = 77 ∧ (i = 59 ∨ i = 65 ∨ i = 66) ∨ 112 ≤ a ∧ a ≤ 114 ∧ 40 ≤ i ∨ a = 116) → (a = 77 ∧ (1 ≤ i ∧ i ≤ 2 ∨ 4 ≤ i ∧ i ≤ 10 ∨ 57 ≤ i ∧ i ≤ 59 ∨ 65 ≤ i ∧ i ≤ 69) ∨ 112 ≤ a ∧ a ≤ 116) := fun a i z => by omega
theorem tg_405 : ∀ a i : Nat, (a = 77 ∧ (i = 1 ∨ 4 ≤ i ∧ i ≤ 10)) → (a = 77 ∧ (1 ≤ i ∧ i ≤ 2 ∨ 4 ≤ i ∧ i ≤ 10 ∨ 57 ≤ i ∧ i ≤ 59 ∨ 65 ≤ i ∧ i ≤ 69) ∨ 112 ≤ a ∧ a ≤ 116) := fun a i z => by omega
theorem tg_406 : ∀ a i j : Nat, (81 ≤ a ∧ a ≤ 84) → ¬ (a = 114 ∧ i = j) := fun a i j z => by omega
theorem tg_407 : ∀ a i j : Nat, (81 ≤ a ∧ a ≤ 84) → ¬ (a = 113 ∧ i = j) := fun a i j z => by omega
theorem tg_408 : ∀ a i j : Nat, (81 ≤ a ∧ a ≤ 84) → ¬ (a = 112 ∧ i = j) := fun a i j z => by omega
theorem tg_409 : ∀ a i j : Nat, (a = 100 ∨ a = 77 ∧ i = 28) → ¬ (a = 114 ∧ i = j) := fun a i j z => by omega
theorem tg_410 : ∀ a i j : Nat, (a = 100 ∨ a = 77 ∧ i = 28) → ¬ (a = 113 ∧ i = j) := fun a i j z => by omega
theorem tg_411 : ∀ a i j : Nat, (a = 100 ∨ a = 77 ∧ i = 28) → ¬ (a = 112 ∧ i = j) := fun a i j z => by omega
theorem tg_412 : ∀ a i : Nat, (a = 100 ∨ a = 77 ∧ i = 28) → ¬ (a = 77 ∧ i = 57) := fun a i z => by omega
theorem tg_413 : ∀ a i : Nat, (a = 100 ∨ a = 77 ∧ i = 28) → ¬ (a = 77 ∧ i = 58) := fun a i z => by omega
theorem tg_414 : ∀ a i : Nat, (81 ≤ a ∧ a ≤ 84) → ¬ (a = 77 ∧ i = 67) := fun a i z => by omega
theorem tg_415 : ∀ a i : Nat, (81 ≤ a ∧ a ≤ 84) → ¬ (a = 77 ∧ i = 66) := fun a i z => by omega
theorem tg_416 : ∀ a i : Nat, (81 ≤ a ∧ a ≤ 84) → ¬ (a = 77 ∧ i = 65) := fun a i z => by omega
theorem tg_417 : ∀ a i : Nat, (81 ≤ a ∧ a ≤ 84) → ¬ (a = 77 ∧ i = 59) := fun a i z => by omega
theorem tg_418 : ∀ a i : Nat, (a = 100 ∨ a = 77 ∧ i = 28) → ¬ (a = 77 ∧ i = 68) := fun a i z => by omega
theorem tg_419 : ∀ a i : Nat, (a = 100 ∨ a = 77 ∧ i = 28) → ¬ (a = 77 ∧ i = 67) := fun a i z => by omega
theorem tg_420 : ∀ a i : Nat, (a = 100 ∨ a = 77 ∧ i = 28) → ¬ (a = 77 ∧ i = 66) := fun a i z => by omega
theorem tg_421 : ∀ a i : Nat, (a = 100 ∨ a = 77 ∧ i = 28) → ¬ (a = 77 ∧ i = 65) := fun a i z => by omega
theorem tg_422 : ∀ a i : Nat, (a = 100 ∨ a = 77 ∧ i = 28) → ¬ (a = 77 ∧ i = 69) := fun a i z => by omega
theorem tg_423 : ∀ a i : Nat, (a = 100 ∨ a = 77 ∧ i = 28) → ¬ (a = 77 ∧ i = 59) := fun a i z => by omega
set_option maxRecDepth 4000 in
set_option maxHeartbeats 0 in
theorem T_227_0 {X : mm_X} {d : Nat} {M : mm_M} {Q : Option Value → mm_M → Prop} {n : Int32} (hX : g_X X) (hd : 3 ≤ d) (q1 : (M.2.1 77 7).toInt ≤ (M.2.1 77 6).toInt) (q2 : FA M) (q3 : WC M) (q4 : NJ M) (q5 : PS M) (q6 : KQ M) (h : ∀ (r : Int32) (M1 : mm_M), g_G M1 → FR md_qu M M1 → ((M1.2.1 77 7).toInt ≤ (M1.2.1 77 6).toInt) → FA M1 → WC M1 → NJ M1 → PS M1 → KQ M1 → (n.toInt < 0 ∨ (M.2.1 77 1).toInt < n.toInt → (M1.2.1 77 1).toInt = (M.2.1 77 1).toInt) → (0 ≤ n.toInt ∧ n.toInt ≤ (M.2.1 77 1).toInt → (M1.2.1 77 1).toInt = 0) → (0 ≤ r.toInt → (M1.2.1 77 4).toInt = 0 ∧ (M1.2.1 77 5).toInt = -1) → (n.toInt < 0 ∨ (M.2.1 77 1).toInt < n.toInt → (M1.2.1 77 4).toInt = (M.2.1 77 4).toInt ∧ (M1.2.1 77 5).toInt = (M.2.1 77 5).toInt) → Q (some (.int r)) M1) : ∀ nn9 : Nat, (∀ (N : mm_M) (u1 : Value) (x2 : Int32), g_G N → FR md_qu M N → (0 ≤ x2.toInt) → (x2.toInt ≤ 40) → (1 ≤ (N.2.1 77 58).toInt) → (∀ a j : Nat, (112 ≤ a ∧ a ≤ 114) → j < (x2.toInt).toNat → N.2.1 a j = N.2.1 a (40 + j)) → (KN N 40 ((N.2.1 77 58).toInt).toNat) → ((N.2.1 77 7).toInt ≤ (N.2.1 77 6).toInt) → (FA N) → (WC N) → (NJ N) → (PS N) → ((N.2.1 77 1).toInt = 0) → (0 ≤ n.toInt) → (n.toInt ≤ (M.2.1 77 1).toInt) → ((N.2.1 77 4).toInt = 0) → ((N.2.1 77 5).toInt = -1) → 40 - x2.toInt < (nn9 : Int) → mm_T X d 226 113 [.ref 77, u1, .int x2] [] N Q) := by
  intro nn9
  induction nn9 with
  | zero =>
    intro N u1 x2 hG F0 g1 g2 g3 g4 g5 g6 g7 g8 g9 g10 g11 g12 g13 g14 g15 hm
    have b_1 := g_b hG (a := 77) (i := 58) (lo := 0) (hi := 40) rfl rfl
    have b_2 := g_b hG (a := 77) (i := 7) (lo := 0) (hi := 500) rfl rfl
    have b_3 := g_b hG (a := 77) (i := 6) (lo := 0) (hi := 500) rfl rfl
    have b_4 := g_b hG (a := 77) (i := 1) (lo := 0) (hi := 500) rfl rfl
    exfalso; omega
  | succ nn9 ih =>
    intro N u1 x2 hG F0 g1 g2 g3 g4 g5 g6 g7 g8 g9 g10 g11 g12 g13 g14 g15 hm
    have b_5 := g_b hG (a := 77) (i := 58) (lo := 0) (hi := 40) rfl rfl
    have b_6 := g_b hG (a := 77) (i := 7) (lo := 0) (hi := 500) rfl rfl
    have b_7 := g_b hG (a := 77) (i := 6) (lo := 0) (hi := 500) rfl rfl
    have b_8 := g_b hG (a := 77) (i := 1) (lo := 0) (hi := 500) rfl rfl
    refine to_in (pc := 113) rw_227_113 rfl (to_an (pc := 114) rw_227_114 rfl (tt_gI (pc := 115) rw_227_115 (g_o hG rfl) (v := (N.2.1 77 58)) rfl (b_cge (pc := 118) rw_227_118 (A := x2.toInt) (B := (N.2.1 77 58).toInt) rfl rfl (fun h9 => ?_) (fun h9 => ?_))))
    · refine to_an (pc := 172) rw_227_172 rfl (tt_gI (pc := 173) rw_227_173 (g_o hG rfl) (v := (N.2.1 77 58)) rfl (to_r0 (pc := 176) rw_227_176 ?_))
      have j_10 : KQ N := ⟨KN_c g5 (fun a j z zl => g4 a j z (by omega)), fun _ => by omega⟩
      exact h (N.2.1 77 58) N hG F0 (by omega) g7 g8 g9 g10 j_10 (by omega) (by omega) (by omega) (by omega)
    · refine to_an (pc := 121) rw_227_121 rfl (s_gR (pc := 122) rw_227_122 hG rfl (v := 112) rfl (to_in (pc := 125) rw_227_125 rfl (to_an (pc := 126) rw_227_126 rfl (s_gR (pc := 127) rw_227_127 hG rfl (v := 112) rfl (to_c (pc := 130) rw_227_130 (x := (40 : Int32)) rfl rfl (to_in (pc := 132) rw_227_132 rfl (s_add (pc := 133) rw_227_133 (A := 40) (B := x2.toInt) rfl rfl (by omega) (fun v11 e12 => s_ial (pc := 134) rw_227_134 hG rfl (n := 80) rfl rfl (A := v11.toInt) rfl (by omega) (by omega) (lo := 0) (hi := 4) rfl rfl (fun v13 w_14 _ _ => s_ias (pc := 135) rw_227_135 hG rfl (n := 80) rfl (A := x2.toInt) rfl (by omega) (by omega) (fun M16 W15 => ?_))))))))))
      have hG17 := g_w hG W15 (A := v13.toInt) rfl (lo := 0) (hi := 4) rfl rfl (by omega) (by decide)
      have F18 := FR.w F0 W15 (show 112 = 77 ∧ (1 ≤ (x2.toInt).toNat ∧ (x2.toInt).toNat ≤ 2 ∨ 4 ≤ (x2.toInt).toNat ∧ (x2.toInt).toNat ≤ 10 ∨ 57 ≤ (x2.toInt).toNat ∧ (x2.toInt).toNat ≤ 59 ∨ 65 ≤ (x2.toInt).toNat ∧ (x2.toInt).toNat ≤ 69) ∨ 112 ≤ 112 ∧ 112 ≤ 116 by omega)
      refine to_an (pc := 136) rw_227_136 rfl (s_gR (pc := 137) rw_227_137 hG17 rfl (v := 113) rfl (to_in (pc := 140) rw_227_140 rfl (to_an (pc := 141) rw_227_141 rfl (s_gR (pc := 142) rw_227_142 hG17 rfl (v := 113) rfl (to_c (pc := 145) rw_227_145 (x := (40 : Int32)) rfl rfl (to_in (pc := 147) rw_227_147 rfl (s_add (pc := 148) rw_227_148 (A := 40) (B := x2.toInt) rfl rfl (by omega) (fun v19 e20 => s_ial (pc := 149) rw_227_149 hG17 rfl (n := 80) rfl rfl (A := v19.toInt) rfl (by omega) (by omega) (lo := 0) (hi := 39) rfl rfl (fun v21 w_22 _ _ => s_ias (pc := 150) rw_227_150 hG17 rfl (n := 80) rfl (A := x2.toInt) rfl (by omega) (by omega) (fun M24 W23 => ?_))))))))))
      have hG25 := g_w hG17 W23 (A := v21.toInt) rfl (lo := 0) (hi := 39) rfl rfl (by omega) (by decide)
      have F26 := FR.w F18 W23 (show 113 = 77 ∧ (1 ≤ (x2.toInt).toNat ∧ (x2.toInt).toNat ≤ 2 ∨ 4 ≤ (x2.toInt).toNat ∧ (x2.toInt).toNat ≤ 10 ∨ 57 ≤ (x2.toInt).toNat ∧ (x2.toInt).toNat ≤ 59 ∨ 65 ≤ (x2.toInt).toNat ∧ (x2.toInt).toNat ≤ 69) ∨ 112 ≤ 113 ∧ 113 ≤ 116 by omega)
      refine to_an (pc := 151) rw_227_151 rfl (s_gR (pc := 152) rw_227_152 hG25 rfl (v := 114) rfl (to_in (pc := 155) rw_227_155 rfl (to_an (pc := 156) rw_227_156 rfl (s_gR (pc := 157) rw_227_157 hG25 rfl (v := 114) rfl (to_c (pc := 160) rw_227_160 (x := (40 : Int32)) rfl rfl (to_in (pc := 162) rw_227_162 rfl (s_add (pc := 163) rw_227_163 (A := 40) (B := x2.toInt) rfl rfl (by omega) (fun v27 e28 => s_ial (pc := 164) rw_227_164 hG25 rfl (n := 80) rfl rfl (A := v27.toInt) rfl (by omega) (by omega) (lo := -2147483648) (hi := 2147483647) rfl rfl (fun v29 w_30 _ _ => s_ias (pc := 165) rw_227_165 hG25 rfl (n := 80) rfl (A := x2.toInt) rfl (by omega) (by omega) (fun M32 W31 => ?_))))))))))
      have hG33 := g_wf hG25 W31 rfl rfl (by decide)
      have F34 := FR.w F26 W31 (show 114 = 77 ∧ (1 ≤ (x2.toInt).toNat ∧ (x2.toInt).toNat ≤ 2 ∨ 4 ≤ (x2.toInt).toNat ∧ (x2.toInt).toNat ≤ 10 ∨ 57 ≤ (x2.toInt).toNat ∧ (x2.toInt).toNat ≤ 59 ∨ 65 ≤ (x2.toInt).toNat ∧ (x2.toInt).toNat ≤ 69) ∨ 112 ≤ 114 ∧ 114 ≤ 116 by omega)
      refine s_inc (pc := 166) rw_227_166 (ls2 := fun v => [.ref 77, u1, .int v]) rfl rfl (fun _ => rfl) (A := x2.toInt) (B := 1) rfl rfl (by omega) (fun v35 e36 => to_go (pc := 169) rw_227_169 ?_)
      have c_37 : M32.2.1 77 58 = (N.2.1 77 58) := (W_n W31 (fun z => absurd z.1 (by decide)) (W_n W23 (fun z => absurd z.1 (by decide)) (W_n W15 (fun z => absurd z.1 (by decide)) rfl)))
      have t_38 : (M32.2.1 77 58).toInt = (N.2.1 77 58).toInt := congrArg Int32.toInt c_37
      have j_39 : ∀ j : Nat, j < (v35.toInt).toNat → M32.2.1 112 j = M32.2.1 112 (40 + j) := by
        rw [show (v35.toInt).toNat = (x2.toInt).toNat + 1 by omega]
        exact CP_s (M1 := M32) (fun j z => g4 112 j (by omega) z) (by omega) (fun i z => (W_n W31 (by omega) (W_n W23 (by omega) (W_n W15 (by omega) rfl)))) (W_n W31 (by omega) (W_n W23 (by omega) (W_e W15))) (by rw [show 40 + (x2.toInt).toNat = (v11.toInt).toNat by omega]; exact w_14)
      have j_40 : ∀ j : Nat, j < (v35.toInt).toNat → M32.2.1 113 j = M32.2.1 113 (40 + j) := by
        rw [show (v35.toInt).toNat = (x2.toInt).toNat + 1 by omega]
        exact CP_s (M1 := M32) (fun j z => g4 113 j (by omega) z) (by omega) (fun i z => (W_n W31 (by omega) (W_n W23 (by omega) (W_n W15 (by omega) rfl)))) (W_n W31 (by omega) (W_e W23)) (by rw [show 40 + (x2.toInt).toNat = (v19.toInt).toNat by omega]; exact (((W_n W15 (by omega) rfl)).symm.trans w_22))
      have j_41 : ∀ j : Nat, j < (v35.toInt).toNat → M32.2.1 114 j = M32.2.1 114 (40 + j) := by
        rw [show (v35.toInt).toNat = (x2.toInt).toNat + 1 by omega]
        exact CP_s (M1 := M32) (fun j z => g4 114 j (by omega) z) (by omega) (fun i z => (W_n W31 (by omega) (W_n W23 (by omega) (W_n W15 (by omega) rfl)))) (W_e W31) (by rw [show 40 + (x2.toInt).toNat = (v27.toInt).toNat by omega]; exact (((W_n W23 (by omega) (W_n W15 (by omega) rfl))).symm.trans w_30))
      have c_42 : M32.2.1 77 7 = (N.2.1 77 7) := (W_n W31 (fun z => absurd z.1 (by decide)) (W_n W23 (fun z => absurd z.1 (by decide)) (W_n W15 (fun z => absurd z.1 (by decide)) rfl)))
      have t_43 : (M32.2.1 77 7).toInt = (N.2.1 77 7).toInt := congrArg Int32.toInt c_42
      have c_44 : M32.2.1 77 6 = (N.2.1 77 6) := (W_n W31 (fun z => absurd z.1 (by decide)) (W_n W23 (fun z => absurd z.1 (by decide)) (W_n W15 (fun z => absurd z.1 (by decide)) rfl)))
      have t_45 : (M32.2.1 77 6).toInt = (N.2.1 77 6).toInt := congrArg Int32.toInt c_44
      have j_46 := (FA_f (fun a i z => W_n W31 (tg_406 a i _ z) rfl) (FA_f (fun a i z => W_n W23 (tg_407 a i _ z) rfl) (FA_f (fun a i z => W_n W15 (tg_408 a i _ z) rfl) g7)))
      have j_47 := (WC_f (fun a i z => W_n W31 (by /-r114-/ omega) rfl) (WC_f (fun a i z => W_n W23 (by /-r113-/ omega) rfl) (WC_f (fun a i z => W_n W15 (by /-r112-/ omega) rfl) g8)))
      have j_48 := (NJ_f (fun a i z => W_n W31 (by /-r114-/ omega) rfl) (NJ_f (fun a i z => W_n W23 (by /-r113-/ omega) rfl) (NJ_f (fun a i z => W_n W15 (by /-r112-/ omega) rfl) g9)))
      have j_49 := (PS_f (fun a i z => W_n W31 (tg_409 a i _ z) rfl) (PS_f (fun a i z => W_n W23 (tg_410 a i _ z) rfl) (PS_f (fun a i z => W_n W15 (tg_411 a i _ z) rfl) g10)))
      have c_50 : M32.2.1 77 1 = (N.2.1 77 1) := (W_n W31 (fun z => absurd z.1 (by decide)) (W_n W23 (fun z => absurd z.1 (by decide)) (W_n W15 (fun z => absurd z.1 (by decide)) rfl)))
      have t_51 : (M32.2.1 77 1).toInt = (N.2.1 77 1).toInt := congrArg Int32.toInt c_50
      have c_52 : M32.2.1 77 4 = (N.2.1 77 4) := (W_n W31 (fun z => absurd z.1 (by decide)) (W_n W23 (fun z => absurd z.1 (by decide)) (W_n W15 (fun z => absurd z.1 (by decide)) rfl)))
      have t_53 : (M32.2.1 77 4).toInt = (N.2.1 77 4).toInt := congrArg Int32.toInt c_52
      have c_54 : M32.2.1 77 5 = (N.2.1 77 5) := (W_n W31 (fun z => absurd z.1 (by decide)) (W_n W23 (fun z => absurd z.1 (by decide)) (W_n W15 (fun z => absurd z.1 (by decide)) rfl)))
      have t_55 : (M32.2.1 77 5).toInt = (N.2.1 77 5).toInt := congrArg Int32.toInt c_54
      exact ih M32 (u1) v35 hG33 F34 (by omega) (by omega) (by omega) (fun a j z zl => by
          rcases (show a = 112 ∨ a = 113 ∨ a = 114 by omega) with e | e | e <;> subst e
          · exact j_39 j zl
          · exact j_40 j zl
          · exact j_41 j zl) (by rw [(W_n W31 (by omega) (W_n W23 (by omega) (W_n W15 (by omega) rfl)))]; exact KN_f (fun a i z => (W_n W31 (by /-r114-/ omega) (W_n W23 (by /-r113-/ omega) (W_n W15 (by /-r112-/ omega) rfl)))) g5) (by omega) j_46 j_47 j_48 j_49 (by omega) (by omega) (by omega) (by omega) (by omega) (by omega)
set_option maxRecDepth 4000 in
set_option maxHeartbeats 0 in
theorem T_227_1 {X : mm_X} {d : Nat} {M : mm_M} {Q : Option Value → mm_M → Prop} {n : Int32} (hX : g_X X) (hd : 3 ≤ d) (q1 : (M.2.1 77 7).toInt ≤ (M.2.1 77 6).toInt) (q2 : FA M) (q3 : WC M) (q4 : NJ M) (q5 : PS M) (q6 : KQ M) (h : ∀ (r : Int32) (M1 : mm_M), g_G M1 → FR md_qu M M1 → ((M1.2.1 77 7).toInt ≤ (M1.2.1 77 6).toInt) → FA M1 → WC M1 → NJ M1 → PS M1 → KQ M1 → (n.toInt < 0 ∨ (M.2.1 77 1).toInt < n.toInt → (M1.2.1 77 1).toInt = (M.2.1 77 1).toInt) → (0 ≤ n.toInt ∧ n.toInt ≤ (M.2.1 77 1).toInt → (M1.2.1 77 1).toInt = 0) → (0 ≤ r.toInt → (M1.2.1 77 4).toInt = 0 ∧ (M1.2.1 77 5).toInt = -1) → (n.toInt < 0 ∨ (M.2.1 77 1).toInt < n.toInt → (M1.2.1 77 4).toInt = (M.2.1 77 4).toInt ∧ (M1.2.1 77 5).toInt = (M.2.1 77 5).toInt) → Q (some (.int r)) M1) : ∀ nn9 : Nat, (∀ (N : mm_M) (u1 : Value) (u2 : Value), g_G N → FR md_qu M N → ((N.2.1 77 7).toInt ≤ (N.2.1 77 6).toInt) → (FA N) → (WC N) → (NJ N) → (PS N) → (KQ N) → (QK N) → ((N.2.1 77 1).toInt = 0) → (0 ≤ n.toInt) → (n.toInt ≤ (M.2.1 77 1).toInt) → ((N.2.1 77 4).toInt = 0) → ((N.2.1 77 5).toInt = -1) → 6 * (500 - (N.2.1 77 7).toInt) + (N.2.1 77 8).toInt < (nn9 : Int) → mm_T X d 226 46 [.ref 77, u1, u2] [] N Q) := by
  intro nn9
  induction nn9 with
  | zero =>
    intro N u1 u2 hG F0 g1 g2 g3 g4 g5 g6 g7 g8 g9 g10 g11 g12 hm
    have b_56 := g_b hG (a := 77) (i := 7) (lo := 0) (hi := 500) rfl rfl
    have b_57 := g_b hG (a := 77) (i := 8) (lo := 0) (hi := 5) rfl rfl
    have b_58 := g_b hG (a := 77) (i := 6) (lo := 0) (hi := 500) rfl rfl
    have b_59 := g_b hG (a := 77) (i := 1) (lo := 0) (hi := 500) rfl rfl
    exfalso; omega
  | succ nn9 ih =>
    intro N u1 u2 hG F0 g1 g2 g3 g4 g5 g6 g7 g8 g9 g10 g11 g12 hm
    have b_60 := g_b hG (a := 77) (i := 7) (lo := 0) (hi := 500) rfl rfl
    have b_61 := g_b hG (a := 77) (i := 8) (lo := 0) (hi := 5) rfl rfl
    have b_62 := g_b hG (a := 77) (i := 6) (lo := 0) (hi := 500) rfl rfl
    have b_63 := g_b hG (a := 77) (i := 1) (lo := 0) (hi := 500) rfl rfl
    refine to_an (pc := 46) rw_227_46 rfl (tt_gI (pc := 47) rw_227_47 (g_o hG rfl) (v := (N.2.1 77 8)) rfl (b_ine (pc := 50) rw_227_50 (A := (N.2.1 77 8).toInt) rfl (fun h64 => ?_) (fun h64 => ?_)))
    · refine to_an (pc := 67) rw_227_67 rfl ?_
      have b_65 := g_b hG (a := 77) (i := 68) (lo := 0) (hi := 1) rfl rfl
      refine tt_gI (pc := 68) rw_227_68 (g_o hG rfl) (v := (N.2.1 77 68)) rfl (b_ine (pc := 71) rw_227_71 (A := (N.2.1 77 68).toInt) rfl (fun h66 => ?_) (fun h66 => ?_))
      · refine to_an (pc := 84) rw_227_84 rfl (s_v (pc := 85) rw_227_85 (dp0 hd (by decide)) (ls0 := [.ref 77, .null]) rfl (Nat.le_of_ble_eq_true rfl) (Nat.le_of_ble_eq_true rfl) rfl (to_rc rfl rfl rfl (g_o hG rfl)) rfl (C_226 hX (dp1 hd (by decide)) hG (by omega) g7 (by omega)  (fun r67 M78 hG69 F68 p_70 p_71 p_72 p_73 p_74 p_75 p_76 p_77 => ?_)))
        have F79 := FR.c F0 F68 tg_403
        have b_80 := g_b hG69 (a := 77) (i := 7) (lo := 0) (hi := 500) rfl rfl
        have c_81 : M78.2.1 77 6 = (N.2.1 77 6) := (F_n F68 (show ¬ (77 = 77 ∧ (6 = 4 ∨ 6 = 5 ∨ 7 ≤ 6 ∧ 6 ≤ 10) ∨ 77 = 77 ∧ (6 = 59 ∨ 65 ≤ 6 ∧ 6 ≤ 69) ∨ 112 ≤ 77 ∧ 77 ≤ 114 ∧ 40 ≤ 6 ∨ 77 = 115 ∨ 77 = 116) by decide) rfl)
        have t_82 : (M78.2.1 77 6).toInt = (N.2.1 77 6).toInt := congrArg Int32.toInt c_81
        have b_83 := g_b hG69 (a := 77) (i := 8) (lo := 0) (hi := 5) rfl rfl
        refine b_ine (pc := 88) rw_227_88 (A := r67.toInt) rfl (fun h84 => ?_) (fun h84 => ?_)
        · have j_85 := (FA_f (tg_394 F68) g2)
          have j_86 := (WC_f (tg_395 F68) g3)
          have j_87 := (NJ_f (tg_396 F68) g4)
          have j_88 := (PS_f (tg_397 F68) g5)
          have j_89 := (KQ_f (tg_398 F68) g6)
          have c_90 : M78.2.1 77 1 = (N.2.1 77 1) := (F_n F68 (show ¬ (77 = 77 ∧ (1 = 4 ∨ 1 = 5 ∨ 7 ≤ 1 ∧ 1 ≤ 10) ∨ 77 = 77 ∧ (1 = 59 ∨ 65 ≤ 1 ∧ 1 ≤ 69) ∨ 112 ≤ 77 ∧ 77 ≤ 114 ∧ 40 ≤ 1 ∨ 77 = 115 ∨ 77 = 116) by decide) rfl)
          have t_91 : (M78.2.1 77 1).toInt = (N.2.1 77 1).toInt := congrArg Int32.toInt c_90
          exact ih M78 (u1) (u2) hG69 F79 (by omega) j_85 j_86 j_87 j_88 j_89 (p_76 (by omega)) (by omega) (by omega) (by omega) (by omega) (by omega) (by omega)
        · refine to_c (pc := 91) rw_227_91 (x := (-1 : Int32)) rfl rfl (to_r0 (pc := 92) rw_227_92 ?_)
          have k_92 : (-1 : Int32).toInt = -1 := rfl
          have j_93 := (FA_f (tg_394 F68) g2)
          have j_94 := (WC_f (tg_395 F68) g3)
          have j_95 := (NJ_f (tg_396 F68) g4)
          have j_96 := (PS_f (tg_397 F68) g5)
          have j_97 := (KQ_f (tg_398 F68) g6)
          have c_98 : M78.2.1 77 1 = (N.2.1 77 1) := (F_n F68 (show ¬ (77 = 77 ∧ (1 = 4 ∨ 1 = 5 ∨ 7 ≤ 1 ∧ 1 ≤ 10) ∨ 77 = 77 ∧ (1 = 59 ∨ 65 ≤ 1 ∧ 1 ≤ 69) ∨ 112 ≤ 77 ∧ 77 ≤ 114 ∧ 40 ≤ 1 ∨ 77 = 115 ∨ 77 = 116) by decide) rfl)
          have t_99 : (M78.2.1 77 1).toInt = (N.2.1 77 1).toInt := congrArg Int32.toInt c_98
          exact h (-1 : Int32) M78 hG69 F79 (by omega) j_93 j_94 j_95 j_96 j_97 (by omega) (by omega) (by omega) (by omega)
      · refine to_an (pc := 74) rw_227_74 rfl (s_v (pc := 75) rw_227_75 (dp0 hd (by decide)) (ls0 := [.ref 77, .null, .null, .null, .null, .null]) rfl (Nat.le_of_ble_eq_true rfl) (Nat.le_of_ble_eq_true rfl) rfl (to_rc rfl rfl rfl (g_o hG rfl)) rfl (C_225 hX (dp1 hd (by decide)) hG (by omega) g7 g2 (by omega)  (fun r100 M111 hG102 F101 p_103 p_104 p_105 p_106 p_107 p_108 p_109 p_110 => ?_)))
        have F112 := FR.c F0 F101 tg_403
        have b_113 := g_b hG102 (a := 77) (i := 7) (lo := 0) (hi := 500) rfl rfl
        have c_114 : M111.2.1 77 6 = (N.2.1 77 6) := (F_n F101 (show ¬ (77 = 77 ∧ (6 = 4 ∨ 6 = 5 ∨ 7 ≤ 6 ∧ 6 ≤ 10) ∨ 77 = 77 ∧ (6 = 59 ∨ 65 ≤ 6 ∧ 6 ≤ 69) ∨ 112 ≤ 77 ∧ 77 ≤ 114 ∧ 40 ≤ 6 ∨ 77 = 115 ∨ 77 = 116) by decide) rfl)
        have t_115 : (M111.2.1 77 6).toInt = (N.2.1 77 6).toInt := congrArg Int32.toInt c_114
        have b_116 := g_b hG102 (a := 77) (i := 8) (lo := 0) (hi := 5) rfl rfl
        refine b_ieq (pc := 78) rw_227_78 (A := r100.toInt) rfl (fun h117 => ?_) (fun h117 => ?_)
        · refine to_c (pc := 91) rw_227_91 (x := (-1 : Int32)) rfl rfl (to_r0 (pc := 92) rw_227_92 ?_)
          have k_118 : (-1 : Int32).toInt = -1 := rfl
          have j_119 := (FA_f (tg_394 F101) g2)
          have j_120 := (WC_f (tg_395 F101) g3)
          have j_121 := (NJ_f (tg_396 F101) g4)
          have j_122 := (PS_f (tg_397 F101) g5)
          have j_123 := (KQ_f (tg_398 F101) g6)
          have c_124 : M111.2.1 77 1 = (N.2.1 77 1) := (F_n F101 (show ¬ (77 = 77 ∧ (1 = 4 ∨ 1 = 5 ∨ 7 ≤ 1 ∧ 1 ≤ 10) ∨ 77 = 77 ∧ (1 = 59 ∨ 65 ≤ 1 ∧ 1 ≤ 69) ∨ 112 ≤ 77 ∧ 77 ≤ 114 ∧ 40 ≤ 1 ∨ 77 = 115 ∨ 77 = 116) by decide) rfl)
          have t_125 : (M111.2.1 77 1).toInt = (N.2.1 77 1).toInt := congrArg Int32.toInt c_124
          exact h (-1 : Int32) M111 hG102 F112 (by omega) j_119 j_120 j_121 j_122 j_123 (by omega) (by omega) (by omega) (by omega)
        · refine to_go (pc := 81) rw_227_81 ?_
          have j_126 := (FA_f (tg_394 F101) g2)
          have j_127 := (WC_f (tg_395 F101) g3)
          have j_128 := (NJ_f (tg_396 F101) g4)
          have j_129 := (PS_f (tg_397 F101) g5)
          have j_130 := (KQ_f (tg_398 F101) g6)
          have c_131 : M111.2.1 77 1 = (N.2.1 77 1) := (F_n F101 (show ¬ (77 = 77 ∧ (1 = 4 ∨ 1 = 5 ∨ 7 ≤ 1 ∧ 1 ≤ 10) ∨ 77 = 77 ∧ (1 = 59 ∨ 65 ≤ 1 ∧ 1 ≤ 69) ∨ 112 ≤ 77 ∧ 77 ≤ 114 ∧ 40 ≤ 1 ∨ 77 = 115 ∨ 77 = 116) by decide) rfl)
          have t_132 : (M111.2.1 77 1).toInt = (N.2.1 77 1).toInt := congrArg Int32.toInt c_131
          exact ih M111 (u1) (u2) hG102 F112 (by omega) j_126 j_127 j_128 j_129 j_130 (p_109 (by omega)) (by omega) (by omega) (by omega) (by omega) (by omega) (by omega)
    · refine to_an (pc := 53) rw_227_53 rfl ?_
      have b_133 := g_b hG (a := 77) (i := 68) (lo := 0) (hi := 1) rfl rfl
      refine tt_gI (pc := 54) rw_227_54 (g_o hG rfl) (v := (N.2.1 77 68)) rfl (b_ieq (pc := 57) rw_227_57 (A := (N.2.1 77 68).toInt) rfl (fun h134 => ?_) (fun h134 => ?_))
      · refine to_an (pc := 67) rw_227_67 rfl (tt_gI (pc := 68) rw_227_68 (g_o hG rfl) (v := (N.2.1 77 68)) rfl (b_ine_f (pc := 71) rw_227_71 (A := (N.2.1 77 68).toInt) rfl (by omega) (to_an (pc := 74) rw_227_74 rfl (s_v (pc := 75) rw_227_75 (dp0 hd (by decide)) (ls0 := [.ref 77, .null, .null, .null, .null, .null]) rfl (Nat.le_of_ble_eq_true rfl) (Nat.le_of_ble_eq_true rfl) rfl (to_rc rfl rfl rfl (g_o hG rfl)) rfl (C_225 hX (dp1 hd (by decide)) hG (by omega) g7 g2 (by omega)  (fun r135 M146 hG137 F136 p_138 p_139 p_140 p_141 p_142 p_143 p_144 p_145 => ?_))))))
        have F147 := FR.c F0 F136 tg_403
        have b_148 := g_b hG137 (a := 77) (i := 7) (lo := 0) (hi := 500) rfl rfl
        have c_149 : M146.2.1 77 6 = (N.2.1 77 6) := (F_n F136 (show ¬ (77 = 77 ∧ (6 = 4 ∨ 6 = 5 ∨ 7 ≤ 6 ∧ 6 ≤ 10) ∨ 77 = 77 ∧ (6 = 59 ∨ 65 ≤ 6 ∧ 6 ≤ 69) ∨ 112 ≤ 77 ∧ 77 ≤ 114 ∧ 40 ≤ 6 ∨ 77 = 115 ∨ 77 = 116) by decide) rfl)
        have t_150 : (M146.2.1 77 6).toInt = (N.2.1 77 6).toInt := congrArg Int32.toInt c_149
        have b_151 := g_b hG137 (a := 77) (i := 8) (lo := 0) (hi := 5) rfl rfl
        refine b_ieq (pc := 78) rw_227_78 (A := r135.toInt) rfl (fun h152 => ?_) (fun h152 => ?_)
        · refine to_c (pc := 91) rw_227_91 (x := (-1 : Int32)) rfl rfl (to_r0 (pc := 92) rw_227_92 ?_)
          have k_153 : (-1 : Int32).toInt = -1 := rfl
          have j_154 := (FA_f (tg_394 F136) g2)
          have j_155 := (WC_f (tg_395 F136) g3)
          have j_156 := (NJ_f (tg_396 F136) g4)
          have j_157 := (PS_f (tg_397 F136) g5)
          have j_158 := (KQ_f (tg_398 F136) g6)
          have c_159 : M146.2.1 77 1 = (N.2.1 77 1) := (F_n F136 (show ¬ (77 = 77 ∧ (1 = 4 ∨ 1 = 5 ∨ 7 ≤ 1 ∧ 1 ≤ 10) ∨ 77 = 77 ∧ (1 = 59 ∨ 65 ≤ 1 ∧ 1 ≤ 69) ∨ 112 ≤ 77 ∧ 77 ≤ 114 ∧ 40 ≤ 1 ∨ 77 = 115 ∨ 77 = 116) by decide) rfl)
          have t_160 : (M146.2.1 77 1).toInt = (N.2.1 77 1).toInt := congrArg Int32.toInt c_159
          exact h (-1 : Int32) M146 hG137 F147 (by omega) j_154 j_155 j_156 j_157 j_158 (by omega) (by omega) (by omega) (by omega)
        · refine to_go (pc := 81) rw_227_81 ?_
          have j_161 := (FA_f (tg_394 F136) g2)
          have j_162 := (WC_f (tg_395 F136) g3)
          have j_163 := (NJ_f (tg_396 F136) g4)
          have j_164 := (PS_f (tg_397 F136) g5)
          have j_165 := (KQ_f (tg_398 F136) g6)
          have c_166 : M146.2.1 77 1 = (N.2.1 77 1) := (F_n F136 (show ¬ (77 = 77 ∧ (1 = 4 ∨ 1 = 5 ∨ 7 ≤ 1 ∧ 1 ≤ 10) ∨ 77 = 77 ∧ (1 = 59 ∨ 65 ≤ 1 ∧ 1 ≤ 69) ∨ 112 ≤ 77 ∧ 77 ≤ 114 ∧ 40 ≤ 1 ∨ 77 = 115 ∨ 77 = 116) by decide) rfl)
          have t_167 : (M146.2.1 77 1).toInt = (N.2.1 77 1).toInt := congrArg Int32.toInt c_166
          exact ih M146 (u1) (u2) hG137 F147 (by omega) j_161 j_162 j_163 j_164 j_165 (p_144 (by omega)) (by omega) (by omega) (by omega) (by omega) (by omega) (by omega)
      · refine to_an (pc := 60) rw_227_60 rfl ?_
        have b_168 := g_b hG (a := 77) (i := 67) (lo := 0) (hi := 8) rfl rfl
        refine tt_gI (pc := 61) rw_227_61 (g_o hG rfl) (v := (N.2.1 77 67)) rfl (b_ile (pc := 64) rw_227_64 (A := (N.2.1 77 67).toInt) rfl (fun h169 => ?_) (fun h169 => ?_))
        · refine to_an (pc := 93) rw_227_93 rfl (to_c (pc := 94) rw_227_94 (x := (1 : Int32)) rfl rfl (s_v (pc := 95) rw_227_95 (dp0 hd (by decide)) (ls0 := [.ref 77, .int (1 : Int32), .null, .null, .null]) rfl (Nat.le_of_ble_eq_true rfl) (Nat.le_of_ble_eq_true rfl) rfl (to_rc rfl rfl rfl (g_o hG rfl)) rfl ?_))
          have k_170 : (1 : Int32).toInt = 1 := rfl
          refine C_223 hX (dp1 hd (by decide)) hG (by omega) (by omega) (by omega) g7 (l := (1 : Int32)) (fun M176 hG172 F171 p_173 p_174 p_175 => ?_)
          have F177 := FR.c F0 F171 tg_404
          have s_178 := QK_e p_173
          have s_179 := Wx_b M176 ((M176.2.1 77 65).toInt).toNat
          have b_180 := g_b hG172 (a := 77) (i := 59) (lo := 0) (hi := 40) rfl rfl
          have b_181 := g_b hG172 (a := 77) (i := 65) (lo := 0) (hi := 48) rfl rfl
          have b_182 := g_b hG172 (a := 77) (i := 66) (lo := 0) (hi := 40) rfl rfl
          have c_183 : M176.2.1 77 67 = (N.2.1 77 67) := (F_n F171 (show ¬ (77 = 77 ∧ (67 = 59 ∨ 67 = 65 ∨ 67 = 66) ∨ 112 ≤ 77 ∧ 77 ≤ 114 ∧ 40 ≤ 67 ∨ 77 = 116) by decide) rfl)
          have t_184 : (M176.2.1 77 67).toInt = (N.2.1 77 67).toInt := congrArg Int32.toInt c_183
          have c_185 : M176.2.1 77 68 = (N.2.1 77 68) := (F_n F171 (show ¬ (77 = 77 ∧ (68 = 59 ∨ 68 = 65 ∨ 68 = 66) ∨ 112 ≤ 77 ∧ 77 ≤ 114 ∧ 40 ≤ 68 ∨ 77 = 116) by decide) rfl)
          have t_186 : (M176.2.1 77 68).toInt = (N.2.1 77 68).toInt := congrArg Int32.toInt c_185
          have c_187 : M176.2.1 77 69 = (N.2.1 77 69) := (F_n F171 (show ¬ (77 = 77 ∧ (69 = 59 ∨ 69 = 65 ∨ 69 = 66) ∨ 112 ≤ 77 ∧ 77 ≤ 114 ∧ 40 ≤ 69 ∨ 77 = 116) by decide) rfl)
          have b_188 := g_b hG (a := 77) (i := 69) (lo := 0) (hi := 40) rfl rfl
          have t_189 : (M176.2.1 77 69).toInt = (N.2.1 77 69).toInt := congrArg Int32.toInt c_187
          refine to_an (pc := 98) rw_227_98 rfl (to_an (pc := 99) rw_227_99 rfl (tt_gI (pc := 100) rw_227_100 (g_o hG172 rfl) (v := (M176.2.1 77 59)) rfl (s_pI (pc := 103) rw_227_103 hG172 rfl (fun M191 W190 => ?_))))
          have hG192 := g_w hG172 W190 (A := (M176.2.1 77 59).toInt) rfl (lo := 0) (hi := 40) rfl rfl (by omega) (by decide)
          have F193 := FR.w F177 W190 (show 77 = 77 ∧ (1 ≤ 58 ∧ 58 ≤ 2 ∨ 4 ≤ 58 ∧ 58 ≤ 10 ∨ 57 ≤ 58 ∧ 58 ≤ 59 ∨ 65 ≤ 58 ∧ 58 ≤ 69) ∨ 112 ≤ 77 ∧ 77 ≤ 116 by decide)
          refine to_an (pc := 106) rw_227_106 rfl (to_c (pc := 107) rw_227_107 (x := (1 : Int32)) rfl rfl (s_pZ (pc := 108) rw_227_108 hG192 rfl (A := 1) rfl (by omega) (fun M195 W194 => ?_)))
          have hG196 := g_w hG192 W194 (A := 1) rfl (lo := 0) (hi := 1) rfl rfl (by omega) (by decide)
          have F197 := FR.w F193 W194 (show 77 = 77 ∧ (1 ≤ 57 ∧ 57 ≤ 2 ∨ 4 ≤ 57 ∧ 57 ≤ 10 ∨ 57 ≤ 57 ∧ 57 ≤ 59 ∨ 65 ≤ 57 ∧ 57 ≤ 69) ∨ 112 ≤ 77 ∧ 77 ≤ 116 by decide)
          refine to_c (pc := 111) rw_227_111 (x := (0 : Int32)) rfl rfl (to_isn (pc := 112) rw_227_112 (ls2 := [.ref 77, u1, .int (0 : Int32)]) rfl rfl ?_)
          have k_198 : (0 : Int32).toInt = 0 := rfl
          have c_199 : M195.2.1 77 58 = (M176.2.1 77 59) := (W_n W194 (by decide) (W_e W190))
          have t_200 : (M195.2.1 77 58).toInt = (M176.2.1 77 59).toInt := congrArg Int32.toInt c_199
          have c_201 : M195.2.1 77 7 = (N.2.1 77 7) := (W_n W194 (by decide) (W_n W190 (by decide) (F_n F171 (show ¬ (77 = 77 ∧ (7 = 59 ∨ 7 = 65 ∨ 7 = 66) ∨ 112 ≤ 77 ∧ 77 ≤ 114 ∧ 40 ≤ 7 ∨ 77 = 116) by decide) rfl)))
          have t_202 : (M195.2.1 77 7).toInt = (N.2.1 77 7).toInt := congrArg Int32.toInt c_201
          have c_203 : M195.2.1 77 6 = (N.2.1 77 6) := (W_n W194 (by decide) (W_n W190 (by decide) (F_n F171 (show ¬ (77 = 77 ∧ (6 = 59 ∨ 6 = 65 ∨ 6 = 66) ∨ 112 ≤ 77 ∧ 77 ≤ 114 ∧ 40 ≤ 6 ∨ 77 = 116) by decide) rfl)))
          have t_204 : (M195.2.1 77 6).toInt = (N.2.1 77 6).toInt := congrArg Int32.toInt c_203
          have j_205 := (FA_f (fun a i z => W_n W194 (tg_339 a i z) rfl) (FA_f (fun a i z => W_n W190 (tg_340 a i z) rfl) (FA_f (tg_399 F171) g2)))
          have j_206 := (WC_f (fun a i z => W_n W194 (by /-r77,57-/ omega) rfl) (WC_f (fun a i z => W_n W190 (by /-r77,58-/ omega) rfl) (WC_f (tg_400 F171) g3)))
          have j_207 := (NJ_f (fun a i z => W_n W194 (by /-r77,57-/ omega) rfl) (NJ_f (fun a i z => W_n W190 (by /-r77,58-/ omega) rfl) (NJ_f (tg_401 F171) g4)))
          have j_208 := (PS_f (fun a i z => W_n W194 (tg_412 a i z) rfl) (PS_f (fun a i z => W_n W190 (tg_413 a i z) rfl) (PS_f (tg_402 F171) g5)))
          have c_209 : M195.2.1 77 1 = (N.2.1 77 1) := (W_n W194 (by decide) (W_n W190 (by decide) (F_n F171 (show ¬ (77 = 77 ∧ (1 = 59 ∨ 1 = 65 ∨ 1 = 66) ∨ 112 ≤ 77 ∧ 77 ≤ 114 ∧ 40 ≤ 1 ∨ 77 = 116) by decide) rfl)))
          have t_210 : (M195.2.1 77 1).toInt = (N.2.1 77 1).toInt := congrArg Int32.toInt c_209
          have c_211 : M195.2.1 77 4 = (N.2.1 77 4) := (W_n W194 (by decide) (W_n W190 (by decide) (F_n F171 (show ¬ (77 = 77 ∧ (4 = 59 ∨ 4 = 65 ∨ 4 = 66) ∨ 112 ≤ 77 ∧ 77 ≤ 114 ∧ 40 ≤ 4 ∨ 77 = 116) by decide) rfl)))
          have t_212 : (M195.2.1 77 4).toInt = (N.2.1 77 4).toInt := congrArg Int32.toInt c_211
          have c_213 : M195.2.1 77 5 = (N.2.1 77 5) := (W_n W194 (by decide) (W_n W190 (by decide) (F_n F171 (show ¬ (77 = 77 ∧ (5 = 59 ∨ 5 = 65 ∨ 5 = 66) ∨ 112 ≤ 77 ∧ 77 ≤ 114 ∧ 40 ≤ 5 ∨ 77 = 116) by decide) rfl)))
          have t_214 : (M195.2.1 77 5).toInt = (N.2.1 77 5).toInt := congrArg Int32.toInt c_213
          exact (T_227_0 (n := n) hX hd q1 q2 q3 q4 q5 q6 h ((40 - (0 : Int32).toInt).toNat + 1)) M195 (u1) (0 : Int32) hG196 F197 (by omega) (by omega) (by omega) (fun a j _ z => absurd z (by omega)) (by rw [c_199]; exact KN_f (fun a i z => (W_n W194 (by /-r77,57-/ omega) (W_n W190 (by /-r77,58-/ omega) rfl))) p_173.2.2) (by omega) j_205 j_206 j_207 j_208 (by omega) (by omega) (by omega) (by omega) (by omega) (by omega)
        · refine to_an (pc := 67) rw_227_67 rfl (tt_gI (pc := 68) rw_227_68 (g_o hG rfl) (v := (N.2.1 77 68)) rfl (b_ine_t (pc := 71) rw_227_71 (A := (N.2.1 77 68).toInt) rfl (by omega) (to_an (pc := 84) rw_227_84 rfl (s_v (pc := 85) rw_227_85 (dp0 hd (by decide)) (ls0 := [.ref 77, .null]) rfl (Nat.le_of_ble_eq_true rfl) (Nat.le_of_ble_eq_true rfl) rfl (to_rc rfl rfl rfl (g_o hG rfl)) rfl (C_226 hX (dp1 hd (by decide)) hG (by omega) g7 (by omega)  (fun r215 M226 hG217 F216 p_218 p_219 p_220 p_221 p_222 p_223 p_224 p_225 => ?_))))))
          have F227 := FR.c F0 F216 tg_403
          have b_228 := g_b hG217 (a := 77) (i := 7) (lo := 0) (hi := 500) rfl rfl
          have c_229 : M226.2.1 77 6 = (N.2.1 77 6) := (F_n F216 (show ¬ (77 = 77 ∧ (6 = 4 ∨ 6 = 5 ∨ 7 ≤ 6 ∧ 6 ≤ 10) ∨ 77 = 77 ∧ (6 = 59 ∨ 65 ≤ 6 ∧ 6 ≤ 69) ∨ 112 ≤ 77 ∧ 77 ≤ 114 ∧ 40 ≤ 6 ∨ 77 = 115 ∨ 77 = 116) by decide) rfl)
          have t_230 : (M226.2.1 77 6).toInt = (N.2.1 77 6).toInt := congrArg Int32.toInt c_229
          have b_231 := g_b hG217 (a := 77) (i := 8) (lo := 0) (hi := 5) rfl rfl
          refine b_ine (pc := 88) rw_227_88 (A := r215.toInt) rfl (fun h232 => ?_) (fun h232 => ?_)
          · have j_233 := (FA_f (tg_394 F216) g2)
            have j_234 := (WC_f (tg_395 F216) g3)
            have j_235 := (NJ_f (tg_396 F216) g4)
            have j_236 := (PS_f (tg_397 F216) g5)
            have j_237 := (KQ_f (tg_398 F216) g6)
            have c_238 : M226.2.1 77 1 = (N.2.1 77 1) := (F_n F216 (show ¬ (77 = 77 ∧ (1 = 4 ∨ 1 = 5 ∨ 7 ≤ 1 ∧ 1 ≤ 10) ∨ 77 = 77 ∧ (1 = 59 ∨ 65 ≤ 1 ∧ 1 ≤ 69) ∨ 112 ≤ 77 ∧ 77 ≤ 114 ∧ 40 ≤ 1 ∨ 77 = 115 ∨ 77 = 116) by decide) rfl)
            have t_239 : (M226.2.1 77 1).toInt = (N.2.1 77 1).toInt := congrArg Int32.toInt c_238
            exact ih M226 (u1) (u2) hG217 F227 (by omega) j_233 j_234 j_235 j_236 j_237 (p_224 (by omega)) (by omega) (by omega) (by omega) (by omega) (by omega) (by omega)
          · refine to_c (pc := 91) rw_227_91 (x := (-1 : Int32)) rfl rfl (to_r0 (pc := 92) rw_227_92 ?_)
            have k_240 : (-1 : Int32).toInt = -1 := rfl
            have j_241 := (FA_f (tg_394 F216) g2)
            have j_242 := (WC_f (tg_395 F216) g3)
            have j_243 := (NJ_f (tg_396 F216) g4)
            have j_244 := (PS_f (tg_397 F216) g5)
            have j_245 := (KQ_f (tg_398 F216) g6)
            have c_246 : M226.2.1 77 1 = (N.2.1 77 1) := (F_n F216 (show ¬ (77 = 77 ∧ (1 = 4 ∨ 1 = 5 ∨ 7 ≤ 1 ∧ 1 ≤ 10) ∨ 77 = 77 ∧ (1 = 59 ∨ 65 ≤ 1 ∧ 1 ≤ 69) ∨ 112 ≤ 77 ∧ 77 ≤ 114 ∧ 40 ≤ 1 ∨ 77 = 115 ∨ 77 = 116) by decide) rfl)
            have t_247 : (M226.2.1 77 1).toInt = (N.2.1 77 1).toInt := congrArg Int32.toInt c_246
            exact h (-1 : Int32) M226 hG217 F227 (by omega) j_241 j_242 j_243 j_244 j_245 (by omega) (by omega) (by omega) (by omega)
set_option maxRecDepth 4000 in
set_option maxHeartbeats 0 in
theorem C_227 {X : mm_X} {d : Nat} {M : mm_M} {Q : Option Value → mm_M → Prop} {n : Int32} (hX : g_X X) (hd : 3 ≤ d) (hG : g_G M) (q1 : (M.2.1 77 7).toInt ≤ (M.2.1 77 6).toInt) (q2 : FA M) (q3 : WC M) (q4 : NJ M) (q5 : PS M) (q6 : KQ M) (h : ∀ (r : Int32) (M1 : mm_M), g_G M1 → FR md_qu M M1 → ((M1.2.1 77 7).toInt ≤ (M1.2.1 77 6).toInt) → FA M1 → WC M1 → NJ M1 → PS M1 → KQ M1 → (n.toInt < 0 ∨ (M.2.1 77 1).toInt < n.toInt → (M1.2.1 77 1).toInt = (M.2.1 77 1).toInt) → (0 ≤ n.toInt ∧ n.toInt ≤ (M.2.1 77 1).toInt → (M1.2.1 77 1).toInt = 0) → (0 ≤ r.toInt → (M1.2.1 77 4).toInt = 0 ∧ (M1.2.1 77 5).toInt = -1) → (n.toInt < 0 ∨ (M.2.1 77 1).toInt < n.toInt → (M1.2.1 77 4).toInt = (M.2.1 77 4).toInt ∧ (M1.2.1 77 5).toInt = (M.2.1 77 5).toInt) → Q (some (.int r)) M1) : mm_T X d 226 0 [.ref 77, .int n, .null] [] M Q := by
  have F0 : FR md_qu M M := FR.rf
  have b_248 := g_b hG (a := 77) (i := 7) (lo := 0) (hi := 500) rfl rfl
  have b_249 := g_b hG (a := 77) (i := 6) (lo := 0) (hi := 500) rfl rfl
  refine to_an (pc := 0) rw_227_0 rfl (to_c (pc := 1) rw_227_1 (x := (0 : Int32)) rfl rfl (s_pI (pc := 2) rw_227_2 hG rfl (fun M251 W250 => ?_)))
  have hG252 := g_wf hG W250 rfl rfl (by decide)
  have F253 := FR.w F0 W250 (show 77 = 77 ∧ (1 ≤ 2 ∧ 2 ≤ 2 ∨ 4 ≤ 2 ∧ 2 ≤ 10 ∨ 57 ≤ 2 ∧ 2 ≤ 59 ∨ 65 ≤ 2 ∧ 2 ≤ 69) ∨ 112 ≤ 77 ∧ 77 ≤ 116 by decide)
  refine to_an (pc := 5) rw_227_5 rfl (to_in (pc := 6) rw_227_6 rfl (s_v (pc := 7) rw_227_7 (dp0 hd (by decide)) (ls0 := [.ref 77, .int n]) rfl (Nat.le_of_ble_eq_true rfl) (Nat.le_of_ble_eq_true rfl) rfl (to_rc rfl rfl rfl (g_o hG252 rfl)) rfl ?_))
  have c_254 : M251.2.1 77 1 = (M.2.1 77 1) := (W_n W250 (by decide) rfl)
  have b_255 := g_b hG (a := 77) (i := 1) (lo := 0) (hi := 500) rfl rfl
  have t_256 : (M251.2.1 77 1).toInt = (M.2.1 77 1).toInt := congrArg Int32.toInt c_254
  have c_257 : M251.2.1 77 4 = (M.2.1 77 4) := (W_n W250 (by decide) rfl)
  have t_258 : (M251.2.1 77 4).toInt = (M.2.1 77 4).toInt := congrArg Int32.toInt c_257
  have c_259 : M251.2.1 77 5 = (M.2.1 77 5) := (W_n W250 (by decide) rfl)
  have t_260 : (M251.2.1 77 5).toInt = (M.2.1 77 5).toInt := congrArg Int32.toInt c_259
  have c_261 : M251.2.1 77 7 = (M.2.1 77 7) := (W_n W250 (by decide) rfl)
  have t_262 : (M251.2.1 77 7).toInt = (M.2.1 77 7).toInt := congrArg Int32.toInt c_261
  have c_263 : M251.2.1 77 6 = (M.2.1 77 6) := (W_n W250 (by decide) rfl)
  have t_264 : (M251.2.1 77 6).toInt = (M.2.1 77 6).toInt := congrArg Int32.toInt c_263
  refine C_163 hX (dp1 hd (by decide)) hG252 (by omega) (n := n) (fun r265 M275 hG267 F266 p_268 p_269 p_270 p_271 p_272 p_273 p_274 => ?_)
  have F276 := FR.c F253 F266 tg_405
  have b_277 := g_b hG267 (a := 77) (i := 7) (lo := 0) (hi := 500) rfl rfl
  have b_278 := g_b hG267 (a := 77) (i := 6) (lo := 0) (hi := 500) rfl rfl
  have b_279 := g_b hG267 (a := 77) (i := 1) (lo := 0) (hi := 500) rfl rfl
  refine b_ine (pc := 10) rw_227_10 (A := r265.toInt) rfl (fun h280 => ?_) (fun h280 => ?_)
  · refine to_an (pc := 16) rw_227_16 rfl (to_c (pc := 17) rw_227_17 (x := (0 : Int32)) rfl rfl (s_pI (pc := 18) rw_227_18 hG267 rfl (fun M282 W281 => ?_)))
    have hG283 := g_w hG267 W281 (A := 0) rfl (lo := 0) (hi := 40) rfl rfl (by omega) (by decide)
    have F284 := FR.w F276 W281 (show 77 = 77 ∧ (1 ≤ 59 ∧ 59 ≤ 2 ∨ 4 ≤ 59 ∧ 59 ≤ 10 ∨ 57 ≤ 59 ∧ 59 ≤ 59 ∨ 65 ≤ 59 ∧ 59 ≤ 69) ∨ 112 ≤ 77 ∧ 77 ≤ 116 by decide)
    refine to_an (pc := 21) rw_227_21 rfl (to_c (pc := 22) rw_227_22 (x := (0 : Int32)) rfl rfl (s_pI (pc := 23) rw_227_23 hG283 rfl (fun M286 W285 => ?_)))
    have hG287 := g_w hG283 W285 (A := 0) rfl (lo := 0) (hi := 40) rfl rfl (by omega) (by decide)
    have F288 := FR.w F284 W285 (show 77 = 77 ∧ (1 ≤ 69 ∧ 69 ≤ 2 ∨ 4 ≤ 69 ∧ 69 ≤ 10 ∨ 57 ≤ 69 ∧ 69 ≤ 59 ∨ 65 ≤ 69 ∧ 69 ≤ 69) ∨ 112 ≤ 77 ∧ 77 ≤ 116 by decide)
    refine to_an (pc := 26) rw_227_26 rfl (to_c (pc := 27) rw_227_27 (x := (0 : Int32)) rfl rfl (s_pI (pc := 28) rw_227_28 hG287 rfl (fun M290 W289 => ?_)))
    have hG291 := g_w hG287 W289 (A := 0) rfl (lo := 0) (hi := 48) rfl rfl (by omega) (by decide)
    have F292 := FR.w F288 W289 (show 77 = 77 ∧ (1 ≤ 65 ∧ 65 ≤ 2 ∨ 4 ≤ 65 ∧ 65 ≤ 10 ∨ 57 ≤ 65 ∧ 65 ≤ 59 ∨ 65 ≤ 65 ∧ 65 ≤ 69) ∨ 112 ≤ 77 ∧ 77 ≤ 116 by decide)
    refine to_an (pc := 31) rw_227_31 rfl (to_c (pc := 32) rw_227_32 (x := (0 : Int32)) rfl rfl (s_pI (pc := 33) rw_227_33 hG291 rfl (fun M294 W293 => ?_)))
    have hG295 := g_w hG291 W293 (A := 0) rfl (lo := 0) (hi := 40) rfl rfl (by omega) (by decide)
    have F296 := FR.w F292 W293 (show 77 = 77 ∧ (1 ≤ 66 ∧ 66 ≤ 2 ∨ 4 ≤ 66 ∧ 66 ≤ 10 ∨ 57 ≤ 66 ∧ 66 ≤ 59 ∨ 65 ≤ 66 ∧ 66 ≤ 69) ∨ 112 ≤ 77 ∧ 77 ≤ 116 by decide)
    refine to_an (pc := 36) rw_227_36 rfl (to_c (pc := 37) rw_227_37 (x := (0 : Int32)) rfl rfl (s_pI (pc := 38) rw_227_38 hG295 rfl (fun M298 W297 => ?_)))
    have hG299 := g_w hG295 W297 (A := 0) rfl (lo := 0) (hi := 8) rfl rfl (by omega) (by decide)
    have F300 := FR.w F296 W297 (show 77 = 77 ∧ (1 ≤ 67 ∧ 67 ≤ 2 ∨ 4 ≤ 67 ∧ 67 ≤ 10 ∨ 57 ≤ 67 ∧ 67 ≤ 59 ∨ 65 ≤ 67 ∧ 67 ≤ 69) ∨ 112 ≤ 77 ∧ 77 ≤ 116 by decide)
    refine to_an (pc := 41) rw_227_41 rfl (to_c (pc := 42) rw_227_42 (x := (0 : Int32)) rfl rfl (s_pI (pc := 43) rw_227_43 hG299 rfl (fun M302 W301 => ?_)))
    have hG303 := g_w hG299 W301 (A := 0) rfl (lo := 0) (hi := 1) rfl rfl (by omega) (by decide)
    have F304 := FR.w F300 W301 (show 77 = 77 ∧ (1 ≤ 68 ∧ 68 ≤ 2 ∨ 4 ≤ 68 ∧ 68 ≤ 10 ∨ 57 ≤ 68 ∧ 68 ≤ 59 ∨ 65 ≤ 68 ∧ 68 ≤ 69) ∨ 112 ≤ 77 ∧ 77 ≤ 116 by decide)
    have c_305 : M302.2.1 77 59 = (0 : Int32) := (W_n W301 (by decide) (W_n W297 (by decide) (W_n W293 (by decide) (W_n W289 (by decide) (W_n W285 (by decide) (W_e W281))))))
    have k_306 : (0 : Int32).toInt = 0 := rfl
    have t_307 : (M302.2.1 77 59).toInt = (0 : Int32).toInt := congrArg Int32.toInt c_305
    have c_308 : M302.2.1 77 65 = (0 : Int32) := (W_n W301 (by decide) (W_n W297 (by decide) (W_n W293 (by decide) (W_e W289))))
    have t_309 : (M302.2.1 77 65).toInt = (0 : Int32).toInt := congrArg Int32.toInt c_308
    have c_310 : M302.2.1 77 66 = (0 : Int32) := (W_n W301 (by decide) (W_n W297 (by decide) (W_e W293)))
    have t_311 : (M302.2.1 77 66).toInt = (0 : Int32).toInt := congrArg Int32.toInt c_310
    have c_312 : M302.2.1 77 67 = (0 : Int32) := (W_n W301 (by decide) (W_e W297))
    have t_313 : (M302.2.1 77 67).toInt = (0 : Int32).toInt := congrArg Int32.toInt c_312
    have c_314 : M302.2.1 77 68 = (0 : Int32) := (W_e W301)
    have t_315 : (M302.2.1 77 68).toInt = (0 : Int32).toInt := congrArg Int32.toInt c_314
    have c_316 : M302.2.1 77 69 = (0 : Int32) := (W_n W301 (by decide) (W_n W297 (by decide) (W_n W293 (by decide) (W_n W289 (by decide) (W_e W285)))))
    have t_317 : (M302.2.1 77 69).toInt = (0 : Int32).toInt := congrArg Int32.toInt c_316
    have j_318 : QK M302 := QK_0 (by omega) (by omega) (by omega) (by omega) (by omega) (by omega)
    have c_319 : M302.2.1 77 7 = (M275.2.1 77 7) := (W_n W301 (by decide) (W_n W297 (by decide) (W_n W293 (by decide) (W_n W289 (by decide) (W_n W285 (by decide) (W_n W281 (by decide) rfl))))))
    have t_320 : (M302.2.1 77 7).toInt = (M275.2.1 77 7).toInt := congrArg Int32.toInt c_319
    have c_321 : M302.2.1 77 6 = (M275.2.1 77 6) := (W_n W301 (by decide) (W_n W297 (by decide) (W_n W293 (by decide) (W_n W289 (by decide) (W_n W285 (by decide) (W_n W281 (by decide) rfl))))))
    have t_322 : (M302.2.1 77 6).toInt = (M275.2.1 77 6).toInt := congrArg Int32.toInt c_321
    have j_323 := (FA_f (fun a i z => W_n W301 (tg_393 a i z) rfl) (FA_f (fun a i z => W_n W297 (tg_414 a i z) rfl) (FA_f (fun a i z => W_n W293 (tg_415 a i z) rfl) (FA_f (fun a i z => W_n W289 (tg_416 a i z) rfl) (FA_f (fun a i z => W_n W285 (tg_392 a i z) rfl) (FA_f (fun a i z => W_n W281 (tg_417 a i z) rfl) (FA_f (tg_328 F266) (FA_f (fun a i z => W_n W250 (tg_94 a i z) rfl) q2))))))))
    have j_324 := (WC_f (fun a i z => W_n W301 (by /-r77,68-/ omega) rfl) (WC_f (fun a i z => W_n W297 (by /-r77,67-/ omega) rfl) (WC_f (fun a i z => W_n W293 (by /-r77,66-/ omega) rfl) (WC_f (fun a i z => W_n W289 (by /-r77,65-/ omega) rfl) (WC_f (fun a i z => W_n W285 (by /-r77,69-/ omega) rfl) (WC_f (fun a i z => W_n W281 (by /-r77,59-/ omega) rfl) (WC_f (tg_330 F266) (WC_f (fun a i z => W_n W250 (by /-r77,2-/ omega) rfl) q3))))))))
    have j_325 := (NJ_f (fun a i z => W_n W301 (by /-r77,68-/ omega) rfl) (NJ_f (fun a i z => W_n W297 (by /-r77,67-/ omega) rfl) (NJ_f (fun a i z => W_n W293 (by /-r77,66-/ omega) rfl) (NJ_f (fun a i z => W_n W289 (by /-r77,65-/ omega) rfl) (NJ_f (fun a i z => W_n W285 (by /-r77,69-/ omega) rfl) (NJ_f (fun a i z => W_n W281 (by /-r77,59-/ omega) rfl) (NJ_f (tg_332 F266) (NJ_f (fun a i z => W_n W250 (by /-r77,2-/ omega) rfl) q4))))))))
    have j_326 := (PS_f (fun a i z => W_n W301 (tg_418 a i z) rfl) (PS_f (fun a i z => W_n W297 (tg_419 a i z) rfl) (PS_f (fun a i z => W_n W293 (tg_420 a i z) rfl) (PS_f (fun a i z => W_n W289 (tg_421 a i z) rfl) (PS_f (fun a i z => W_n W285 (tg_422 a i z) rfl) (PS_f (fun a i z => W_n W281 (tg_423 a i z) rfl) (PS_f (tg_334 F266) (PS_f (fun a i z => W_n W250 (tg_348 a i z) rfl) q5))))))))
    have j_327 := (KQ_f (fun a i z => W_n W301 (by /-r77,68-/ omega) rfl) (KQ_f (fun a i z => W_n W297 (by /-r77,67-/ omega) rfl) (KQ_f (fun a i z => W_n W293 (by /-r77,66-/ omega) rfl) (KQ_f (fun a i z => W_n W289 (by /-r77,65-/ omega) rfl) (KQ_f (fun a i z => W_n W285 (by /-r77,69-/ omega) rfl) (KQ_f (fun a i z => W_n W281 (by /-r77,59-/ omega) rfl) (KQ_f (tg_336 F266) (KQ_f (fun a i z => W_n W250 (by /-r77,2-/ omega) rfl) q6))))))))
    have c_328 : M302.2.1 77 1 = (M275.2.1 77 1) := (W_n W301 (by decide) (W_n W297 (by decide) (W_n W293 (by decide) (W_n W289 (by decide) (W_n W285 (by decide) (W_n W281 (by decide) rfl))))))
    have t_329 : (M302.2.1 77 1).toInt = (M275.2.1 77 1).toInt := congrArg Int32.toInt c_328
    have c_330 : M302.2.1 77 4 = (M275.2.1 77 4) := (W_n W301 (by decide) (W_n W297 (by decide) (W_n W293 (by decide) (W_n W289 (by decide) (W_n W285 (by decide) (W_n W281 (by decide) rfl))))))
    have t_331 : (M302.2.1 77 4).toInt = (M275.2.1 77 4).toInt := congrArg Int32.toInt c_330
    have c_332 : M302.2.1 77 5 = (M275.2.1 77 5) := (W_n W301 (by decide) (W_n W297 (by decide) (W_n W293 (by decide) (W_n W289 (by decide) (W_n W285 (by decide) (W_n W281 (by decide) rfl))))))
    have t_333 : (M302.2.1 77 5).toInt = (M275.2.1 77 5).toInt := congrArg Int32.toInt c_332
    have c_334 : M302.2.1 77 8 = (M275.2.1 77 8) := (W_n W301 (by decide) (W_n W297 (by decide) (W_n W293 (by decide) (W_n W289 (by decide) (W_n W285 (by decide) (W_n W281 (by decide) rfl))))))
    have b_335 := g_b hG267 (a := 77) (i := 8) (lo := 0) (hi := 5) rfl rfl
    have t_336 : (M302.2.1 77 8).toInt = (M275.2.1 77 8).toInt := congrArg Int32.toInt c_334
    exact (T_227_1 (n := n) hX hd q1 q2 q3 q4 q5 q6 h ((6 * (500 - (M302.2.1 77 7).toInt) + (M302.2.1 77 8).toInt).toNat + 1)) M302 (.int n) (.null) hG303 F304 (by omega) j_323 j_324 j_325 j_326 j_327 j_318 (by omega) (by omega) (by omega) (by omega) (by omega) (by omega)
  · refine to_c (pc := 13) rw_227_13 (x := (-2 : Int32)) rfl rfl (to_r0 (pc := 15) rw_227_15 ?_)
    have k_337 : (-2 : Int32).toInt = -2 := rfl
    have j_338 := (FA_f (tg_328 F266) (FA_f (fun a i z => W_n W250 (tg_94 a i z) rfl) q2))
    have j_339 := (WC_f (tg_330 F266) (WC_f (fun a i z => W_n W250 (by /-r77,2-/ omega) rfl) q3))
    have j_340 := (NJ_f (tg_332 F266) (NJ_f (fun a i z => W_n W250 (by /-r77,2-/ omega) rfl) q4))
    have j_341 := (PS_f (tg_334 F266) (PS_f (fun a i z => W_n W250 (tg_348 a i z) rfl) q5))
    have j_342 := (KQ_f (tg_336 F266) (KQ_f (fun a i z => W_n W250 (by /-r77,2-/ omega) rfl) q6))
    exact h (-2 : Int32) M275 hG267 F276 (by omega) j_338 j_339 j_340 j_341 j_342 (by omega) (by omega) (by omega) (by omega)
