theorem tg_174 {M M1 : mm_M} (F : FR (fun a i : Nat => a = 77 ∧ (i = 4 ∨ i = 5 ∨ 7 ≤ i ∧ i ≤ 10) ∨ a = 77 ∧ (i = 59 ∨ 65 ≤ i ∧ i ≤ 69) ∨ 112 ≤ a ∧ a ≤ 114 ∧ 40 ≤ i ∨ a = 115 ∨ a = 116) M M1) : ∀ a i : Nat, (81 ≤ a ∧ a ≤ 84) → M1.2.1 a i = M.2.1 a i := fun a i z => F_n F (show ¬ (a = 77 ∧ (i = 4 ∨ i = 5 ∨ 7 ≤ i ∧ i ≤ 10) ∨ a = 77 ∧ (i = 59 ∨ 65 ≤ i ∧ i ≤ 69) ∨ 112 ≤ a ∧ a ≤ 114 ∧ 40 ≤ i ∨ a = 115 ∨ a = 116) by omega) rfl
theorem tg_175 {M M1 : mm_M} (F : FR (fun a i : Nat => a = 77 ∧ (i = 4 ∨ i = 5 ∨ 7 ≤ i ∧ i ≤ 10) ∨ a = 77 ∧ (i = 59 ∨ 65 ≤ i ∧ i ≤ 69) ∨ 112 ≤ a ∧ a ≤ 114 ∧ 40 ≤ i ∨ a = 115 ∨ a = 116) M M1) : ∀ a i : Nat, a = 78 → M1.2.1 a i = M.2.1 a i := fun a i z => F_n F (show ¬ (a = 77 ∧ (i = 4 ∨ i = 5 ∨ 7 ≤ i ∧ i ≤ 10) ∨ a = 77 ∧ (i = 59 ∨ 65 ≤ i ∧ i ≤ 69) ∨ 112 ≤ a ∧ a ≤ 114 ∧ 40 ≤ i ∨ a = 115 ∨ a = 116) by omega) rfl
theorem tg_176 {M M1 : mm_M} (F : FR (fun a i : Nat => a = 77 ∧ (i = 4 ∨ i = 5 ∨ 7 ≤ i ∧ i ≤ 10) ∨ a = 77 ∧ (i = 59 ∨ 65 ≤ i ∧ i ≤ 69) ∨ 112 ≤ a ∧ a ≤ 114 ∧ 40 ≤ i ∨ a = 115 ∨ a = 116) M M1) : ∀ a i : Nat, a = 79 → M1.2.1 a i = M.2.1 a i := fun a i z => F_n F (show ¬ (a = 77 ∧ (i = 4 ∨ i = 5 ∨ 7 ≤ i ∧ i ≤ 10) ∨ a = 77 ∧ (i = 59 ∨ 65 ≤ i ∧ i ≤ 69) ∨ 112 ≤ a ∧ a ≤ 114 ∧ 40 ≤ i ∨ a = 115 ∨ a = 116) by omega) rfl
theorem tg_177 {M M1 : mm_M} (F : FR (fun a i : Nat => a = 77 ∧ (i = 4 ∨ i = 5 ∨ 7 ≤ i ∧ i ≤ 10) ∨ a = 77 ∧ (i = 59 ∨ 65 ≤ i ∧ i ≤ 69) ∨ 112 ≤ a ∧ a ≤ 114 ∧ 40 ≤ i ∨ a = 115 ∨ a = 116) M M1) : ∀ a i : Nat, (a = 77 ∧ 11 ≤ i ∧ i ≤ 13 ∨ 80 ≤ a ∧ a ≤ 84 ∧ i < 8 ∨ 85 ≤ a ∧ a ≤ 86 ∧ i < 12) → M1.2.1 a i = M.2.1 a i := fun a i z => F_n F (show ¬ (a = 77 ∧ (i = 4 ∨ i = 5 ∨ 7 ≤ i ∧ i ≤ 10) ∨ a = 77 ∧ (i = 59 ∨ 65 ≤ i ∧ i ≤ 69) ∨ 112 ≤ a ∧ a ≤ 114 ∧ 40 ≤ i ∨ a = 115 ∨ a = 116) by omega) rfl
theorem tg_178 {M M1 : mm_M} (F : FR (fun a i : Nat => a = 77 ∧ (i = 1 ∨ 4 ≤ i ∧ i ≤ 10)) M M1) : ∀ a i : Nat, (81 ≤ a ∧ a ≤ 84) → M1.2.1 a i = M.2.1 a i := fun a i z => F_n F (show ¬ (a = 77 ∧ (i = 1 ∨ 4 ≤ i ∧ i ≤ 10)) by omega) rfl
theorem tg_179 {M M1 : mm_M} (F : FR (fun a i : Nat => a = 77 ∧ (i = 1 ∨ 4 ≤ i ∧ i ≤ 10)) M M1) : ∀ a i : Nat, (a = 77 ∧ 11 ≤ i ∧ i ≤ 13 ∨ 80 ≤ a ∧ a ≤ 84 ∧ i < 8 ∨ 85 ≤ a ∧ a ≤ 86 ∧ i < 12) → M1.2.1 a i = M.2.1 a i := fun a i z => F_n F (show ¬ (a = 77 ∧ (i = 1 ∨ 4 ≤ i ∧ i ≤ 10)) by omega) rfl
theorem tg_180 : ∀ a i : Nat, (a = 77 ∧ (i = 4 ∨ i = 5 ∨ 7 ≤ i ∧ i ≤ 10) ∨ a = 77 ∧ (i = 59 ∨ 65 ≤ i ∧ i ≤ 69) ∨ 112 ≤ a ∧ a ≤ 114 ∧ 40 ≤ i ∨ a = 115 ∨ a = 116) → (a = 77 ∧ (1 ≤ i ∧ i ≤ 2 ∨ 4 ≤ i ∧ i ≤ 10 ∨ 57 ≤ i ∧ i ≤ 59 ∨ 65 ≤ i ∧ i ≤ 69) ∨ 112 ≤ a ∧ a ≤ 116) := fun a i z => by omega
theorem tg_181 : ∀ a i : Nat, (a = 77 ∧ (i = 59 ∨ i = 65 ∨ i = 66) ∨ 112 ≤ a ∧ a ≤ 114 ∧ 40 ≤ i ∨ a = 116) → (a = 77 ∧ (1 ≤ i ∧ i ≤ 2 ∨ 4 ≤ i ∧ i ≤ 10 ∨ 57 ≤ i ∧ i ≤ 59 ∨ 65 ≤ i ∧ i ≤ 69) ∨ 112 ≤ a ∧ a ≤ 116) := fun a i z => by omega
theorem tg_182 : ∀ a i : Nat, (a = 77 ∧ (i = 1 ∨ 4 ≤ i ∧ i ≤ 10)) → (a = 77 ∧ (1 ≤ i ∧ i ≤ 2 ∨ 4 ≤ i ∧ i ≤ 10 ∨ 57 ≤ i ∧ i ≤ 59 ∨ 65 ≤ i ∧ i ≤ 69) ∨ 112 ≤ a ∧ a ≤ 116) := fun a i z => by omega
theorem tg_183 : ∀ a i : Nat, (81 ≤ a ∧ a ≤ 84) → ¬ (a = 77 ∧ i = 67) := fun a i z => by omega
theorem tg_184 : ∀ a i : Nat, (81 ≤ a ∧ a ≤ 84) → ¬ (a = 77 ∧ i = 66) := fun a i z => by omega
theorem tg_185 : ∀ a i : Nat, (81 ≤ a ∧ a ≤ 84) → ¬ (a = 77 ∧ i = 65) := fun a i z => by omega
theorem tg_186 : ∀ a i : Nat, (81 ≤ a ∧ a ≤ 84) → ¬ (a = 77 ∧ i = 59) := fun a i z => by omega
theorem tg_187 : ∀ a i : Nat, (a = 77 ∧ 6 ≤ i ∧ i ≤ 10) → ¬ (a = 77 ∧ i = 66) := fun a i z => by omega
theorem tg_188 : ∀ a i : Nat, (a = 77 ∧ 6 ≤ i ∧ i ≤ 10) → ¬ (a = 77 ∧ i = 59) := fun a i z => by omega
theorem tg_189 : ∀ a i : Nat, a = 78 → ¬ (a = 77 ∧ i = 66) := fun a i z => by omega
theorem tg_190 : ∀ a i : Nat, a = 78 → ¬ (a = 77 ∧ i = 59) := fun a i z => by omega
theorem tg_191 : ∀ a i : Nat, a = 79 → ¬ (a = 77 ∧ i = 66) := fun a i z => by omega
theorem tg_192 : ∀ a i : Nat, a = 79 → ¬ (a = 77 ∧ i = 59) := fun a i z => by omega
theorem tg_193 : ∀ a i : Nat, (a = 77 ∧ 11 ≤ i ∧ i ≤ 13 ∨ 80 ≤ a ∧ a ≤ 84 ∧ i < 8 ∨ 85 ≤ a ∧ a ≤ 86 ∧ i < 12) → ¬ (a = 77 ∧ i = 67) := fun a i z => by omega
theorem tg_194 : ∀ a i : Nat, (a = 77 ∧ 11 ≤ i ∧ i ≤ 13 ∨ 80 ≤ a ∧ a ≤ 84 ∧ i < 8 ∨ 85 ≤ a ∧ a ≤ 86 ∧ i < 12) → ¬ (a = 77 ∧ i = 66) := fun a i z => by omega
theorem tg_195 : ∀ a i : Nat, (a = 77 ∧ 11 ≤ i ∧ i ≤ 13 ∨ 80 ≤ a ∧ a ≤ 84 ∧ i < 8 ∨ 85 ≤ a ∧ a ≤ 86 ∧ i < 12) → ¬ (a = 77 ∧ i = 65) := fun a i z => by omega
theorem tg_196 : ∀ a i : Nat, (a = 77 ∧ 11 ≤ i ∧ i ≤ 13 ∨ 80 ≤ a ∧ a ≤ 84 ∧ i < 8 ∨ 85 ≤ a ∧ a ≤ 86 ∧ i < 12) → ¬ (a = 77 ∧ i = 59) := fun a i z => by omega
set_option maxRecDepth 4000 in
set_option maxHeartbeats 0 in
theorem U_227_0 {X : mm_X} {d : Nat} {M : mm_M} {Q : Option Value → mm_M → Prop} {n : Int32} {t : Nat → Int} {nn : Int} {sg : x_S} (hX : g_X X) (hd : 3 ≤ d) (q1 : (M.2.1 77 7).toInt ≤ (M.2.1 77 6).toInt) (q2 : FA M) (q3 : 0 ≤ n.toInt ∧ n.toInt ≤ (M.2.1 77 1).toInt → n.toInt = nn) (q4 : TR M t nn) (q5 : W9 M) (q6 : PLk M sg) (h : ∀ (r : Int32) (M1 : mm_M), g_G M1 → FR md_qu M M1 → (n.toInt < 0 ∨ (M.2.1 77 1).toInt < n.toInt → r.toInt = -2) → (-2 ≤ r.toInt) → (QGN (M.2.1 77 1).toInt n.toInt r.toInt (x_gg t nn sg 0 0 0 [] x_P0 (x_sk t nn 0)) (fun P => LQK 0 M1 P)) → ((∀ Q : x_GP, r.toInt < 0 → Q.2 ≤ 40 → LQK 0 M Q → LQK 0 M1 Q)) → (r.toInt < 0 → (M1.2.1 77 58).toInt = (M.2.1 77 58).toInt ∧ (M1.2.1 77 57).toInt = (M.2.1 77 57).toInt) → (0 ≤ r.toInt → (M1.2.1 77 58).toInt = r.toInt ∧ (M1.2.1 77 57).toInt = 1) → Q (some (.int r)) M1) : ∀ nn9 : Nat, (∀ (N : mm_M) (u1 : Value) (x2 : Int32), g_G N → FR md_qu M N → (0 ≤ x2.toInt) → (x2.toInt ≤ 40) → (0 ≤ n.toInt) → (n.toInt ≤ (M.2.1 77 1).toInt) → (x2.toInt ≤ (N.2.1 77 58).toInt) → ((N.2.1 77 58).toInt ≤ 40) → ((N.2.1 77 57).toInt = 1) → (∃ P : x_GP, x_gg t nn sg 0 0 0 [] x_P0 (x_sk t nn 0) = Sum.inr P ∧ (N.2.1 77 58).toInt = P.2 ∧ LQK 40 N P) → (∀ a j : Nat, (112 ≤ a ∧ a ≤ 114) → j < (x2.toInt).toNat → N.2.1 a j = N.2.1 a (40 + j)) → 40 - x2.toInt < (nn9 : Int) → mm_T X d 226 113 [.ref 77, u1, .int x2] [] N Q) := by
  intro nn9
  induction nn9 with
  | zero =>
    intro N u1 x2 hG F0 g1 g2 g3 g4 g5 g6 g7 g8 g9 hm
    have b_1 := g_b hG (a := 77) (i := 58) (lo := 0) (hi := 40) rfl rfl
    have b_2 := g_b hG (a := 77) (i := 57) (lo := 0) (hi := 1) rfl rfl
    exfalso; omega
  | succ nn9 ih =>
    intro N u1 x2 hG F0 g1 g2 g3 g4 g5 g6 g7 g8 g9 hm
    have b_3 := g_b hG (a := 77) (i := 58) (lo := 0) (hi := 40) rfl rfl
    have b_4 := g_b hG (a := 77) (i := 57) (lo := 0) (hi := 1) rfl rfl
    obtain ⟨Pn, en, eb, el⟩ := id g8
    refine to_in (pc := 113) rw_227_113 rfl ?_
    refine to_an (pc := 114) rw_227_114 rfl ?_
    refine tt_gI (pc := 115) rw_227_115 (g_o hG rfl) (v := (N.2.1 77 58)) rfl ?_
    refine b_cge (pc := 118) rw_227_118 (A := x2.toInt) (B := (N.2.1 77 58).toInt) rfl rfl (fun h5 => ?_) (fun h5 => ?_)
    · refine to_an (pc := 172) rw_227_172 rfl ?_
      refine tt_gI (pc := 173) rw_227_173 (g_o hG rfl) (v := (N.2.1 77 58)) rfl ?_
      refine to_r0 (pc := 176) rw_227_176 ?_
      exact h (N.2.1 77 58) N hG F0 (by (first | (clear q3; omega) | omega)) (by (first | (clear q3; omega) | omega)) (fun _ => Or.inr ⟨Pn, en, (by (first | (clear q3; omega) | omega)), LQK_m (b := 40) (fun r i hr hi => by rw [Nat.zero_add]; exact g9 r i hr (by (first | (clear q3; omega) | omega))) el⟩) (fun Q z => by exfalso; omega) (by (first | (clear q3; omega) | omega)) (by (first | (clear q3; omega) | omega))
    · refine to_an (pc := 121) rw_227_121 rfl ?_
      refine s_gR (pc := 122) rw_227_122 hG rfl (v := 112) rfl ?_
      refine to_in (pc := 125) rw_227_125 rfl ?_
      refine to_an (pc := 126) rw_227_126 rfl ?_
      refine s_gR (pc := 127) rw_227_127 hG rfl (v := 112) rfl ?_
      refine to_c (pc := 130) rw_227_130 (x := (40 : Int32)) rfl rfl ?_
      refine to_in (pc := 132) rw_227_132 rfl ?_
      refine s_add (pc := 133) rw_227_133 (A := 40) (B := x2.toInt) rfl rfl (by (first | (clear q3; omega) | omega)) (fun v6 e7 => ?_)
      refine s_ial (pc := 134) rw_227_134 hG rfl (n := 80) rfl rfl (A := v6.toInt) rfl (by (first | (clear q3; omega) | omega)) (by (first | (clear q3; omega) | omega)) (lo := 0) (hi := 4) rfl rfl (fun v8 w_9 _ _ => ?_)
      refine s_ias (pc := 135) rw_227_135 hG rfl (n := 80) rfl (A := x2.toInt) rfl (by (first | (clear q3; omega) | omega)) (by (first | (clear q3; omega) | omega)) (fun M11 W10 => ?_)
      have hG12 := g_w hG W10 (A := v8.toInt) rfl (lo := 0) (hi := 4) rfl rfl (by (first | (clear q3; omega) | omega)) (by decide)
      have F13 := FR.w F0 W10 (show 112 = 77 ∧ (1 ≤ (x2.toInt).toNat ∧ (x2.toInt).toNat ≤ 2 ∨ 4 ≤ (x2.toInt).toNat ∧ (x2.toInt).toNat ≤ 10 ∨ 57 ≤ (x2.toInt).toNat ∧ (x2.toInt).toNat ≤ 59 ∨ 65 ≤ (x2.toInt).toNat ∧ (x2.toInt).toNat ≤ 69) ∨ 112 ≤ 112 ∧ 112 ≤ 116 by (first | (clear q3; omega) | omega))
      refine to_an (pc := 136) rw_227_136 rfl ?_
      refine s_gR (pc := 137) rw_227_137 hG12 rfl (v := 113) rfl ?_
      refine to_in (pc := 140) rw_227_140 rfl ?_
      refine to_an (pc := 141) rw_227_141 rfl ?_
      refine s_gR (pc := 142) rw_227_142 hG12 rfl (v := 113) rfl ?_
      refine to_c (pc := 145) rw_227_145 (x := (40 : Int32)) rfl rfl ?_
      refine to_in (pc := 147) rw_227_147 rfl ?_
      refine s_add (pc := 148) rw_227_148 (A := 40) (B := x2.toInt) rfl rfl (by (first | (clear q3; omega) | omega)) (fun v14 e15 => ?_)
      refine s_ial (pc := 149) rw_227_149 hG12 rfl (n := 80) rfl rfl (A := v14.toInt) rfl (by (first | (clear q3; omega) | omega)) (by (first | (clear q3; omega) | omega)) (lo := 0) (hi := 39) rfl rfl (fun v16 w_17 _ _ => ?_)
      refine s_ias (pc := 150) rw_227_150 hG12 rfl (n := 80) rfl (A := x2.toInt) rfl (by (first | (clear q3; omega) | omega)) (by (first | (clear q3; omega) | omega)) (fun M19 W18 => ?_)
      have hG20 := g_w hG12 W18 (A := v16.toInt) rfl (lo := 0) (hi := 39) rfl rfl (by (first | (clear q3; omega) | omega)) (by decide)
      have F21 := FR.w F13 W18 (show 113 = 77 ∧ (1 ≤ (x2.toInt).toNat ∧ (x2.toInt).toNat ≤ 2 ∨ 4 ≤ (x2.toInt).toNat ∧ (x2.toInt).toNat ≤ 10 ∨ 57 ≤ (x2.toInt).toNat ∧ (x2.toInt).toNat ≤ 59 ∨ 65 ≤ (x2.toInt).toNat ∧ (x2.toInt).toNat ≤ 69) ∨ 112 ≤ 113 ∧ 113 ≤ 116 by (first | (clear q3; omega) | omega))
      refine to_an (pc := 151) rw_227_151 rfl ?_
      refine s_gR (pc := 152) rw_227_152 hG20 rfl (v := 114) rfl ?_
      refine to_in (pc := 155) rw_227_155 rfl ?_
      refine to_an (pc := 156) rw_227_156 rfl ?_
      refine s_gR (pc := 157) rw_227_157 hG20 rfl (v := 114) rfl ?_
      refine to_c (pc := 160) rw_227_160 (x := (40 : Int32)) rfl rfl ?_
      refine to_in (pc := 162) rw_227_162 rfl ?_
      refine s_add (pc := 163) rw_227_163 (A := 40) (B := x2.toInt) rfl rfl (by (first | (clear q3; omega) | omega)) (fun v22 e23 => ?_)
      refine s_ial (pc := 164) rw_227_164 hG20 rfl (n := 80) rfl rfl (A := v22.toInt) rfl (by (first | (clear q3; omega) | omega)) (by (first | (clear q3; omega) | omega)) (lo := -2147483648) (hi := 2147483647) rfl rfl (fun v24 w_25 _ _ => ?_)
      refine s_ias (pc := 165) rw_227_165 hG20 rfl (n := 80) rfl (A := x2.toInt) rfl (by (first | (clear q3; omega) | omega)) (by (first | (clear q3; omega) | omega)) (fun M27 W26 => ?_)
      have hG28 := g_wf hG20 W26 rfl rfl (by decide)
      have F29 := FR.w F21 W26 (show 114 = 77 ∧ (1 ≤ (x2.toInt).toNat ∧ (x2.toInt).toNat ≤ 2 ∨ 4 ≤ (x2.toInt).toNat ∧ (x2.toInt).toNat ≤ 10 ∨ 57 ≤ (x2.toInt).toNat ∧ (x2.toInt).toNat ≤ 59 ∨ 65 ≤ (x2.toInt).toNat ∧ (x2.toInt).toNat ≤ 69) ∨ 112 ≤ 114 ∧ 114 ≤ 116 by (first | (clear q3; omega) | omega))
      refine s_inc (pc := 166) rw_227_166 (ls2 := fun v => [.ref 77, u1, .int v]) rfl rfl (fun _ => rfl) (A := x2.toInt) (B := 1) rfl rfl (by (first | (clear q3; omega) | omega)) (fun v30 e31 => ?_)
      refine to_go (pc := 169) rw_227_169 ?_
      have c_32 : M27.2.1 77 58 = (N.2.1 77 58) := (W_n W26 (fun z => absurd z.1 (by decide)) (W_n W18 (fun z => absurd z.1 (by decide)) (W_n W10 (fun z => absurd z.1 (by decide)) rfl)))
      have t_33 : (M27.2.1 77 58).toInt = (N.2.1 77 58).toInt := congrArg Int32.toInt c_32
      have c_34 : M27.2.1 77 57 = (N.2.1 77 57) := (W_n W26 (fun z => absurd z.1 (by decide)) (W_n W18 (fun z => absurd z.1 (by decide)) (W_n W10 (fun z => absurd z.1 (by decide)) rfl)))
      have t_35 : (M27.2.1 77 57).toInt = (N.2.1 77 57).toInt := congrArg Int32.toInt c_34
      have j_36 : ∀ j : Nat, j < (v30.toInt).toNat → M27.2.1 112 j = M27.2.1 112 (40 + j) := by
        rw [show (v30.toInt).toNat = (x2.toInt).toNat + 1 by (first | (clear q3; omega) | omega)]
        exact CP_s (M1 := M27) (fun j z => g9 112 j (by (first | (clear q3; omega) | omega)) z) (by (first | (clear q3; omega) | omega)) (fun i z => (W_n W26 (by (first | (clear q3; omega) | omega)) (W_n W18 (by (first | (clear q3; omega) | omega)) (W_n W10 (by (first | (clear q3; omega) | omega)) rfl)))) (W_n W26 (by (first | (clear q3; omega) | omega)) (W_n W18 (by (first | (clear q3; omega) | omega)) (W_e W10))) (by rw [show 40 + (x2.toInt).toNat = (v6.toInt).toNat by (first | (clear q3; omega) | omega)]; exact w_9)
      have j_37 : ∀ j : Nat, j < (v30.toInt).toNat → M27.2.1 113 j = M27.2.1 113 (40 + j) := by
        rw [show (v30.toInt).toNat = (x2.toInt).toNat + 1 by (first | (clear q3; omega) | omega)]
        exact CP_s (M1 := M27) (fun j z => g9 113 j (by (first | (clear q3; omega) | omega)) z) (by (first | (clear q3; omega) | omega)) (fun i z => (W_n W26 (by (first | (clear q3; omega) | omega)) (W_n W18 (by (first | (clear q3; omega) | omega)) (W_n W10 (by (first | (clear q3; omega) | omega)) rfl)))) (W_n W26 (by (first | (clear q3; omega) | omega)) (W_e W18)) (by rw [show 40 + (x2.toInt).toNat = (v14.toInt).toNat by (first | (clear q3; omega) | omega)]; exact (((W_n W10 (by (first | (clear q3; omega) | omega)) rfl)).symm.trans w_17))
      have j_38 : ∀ j : Nat, j < (v30.toInt).toNat → M27.2.1 114 j = M27.2.1 114 (40 + j) := by
        rw [show (v30.toInt).toNat = (x2.toInt).toNat + 1 by (first | (clear q3; omega) | omega)]
        exact CP_s (M1 := M27) (fun j z => g9 114 j (by (first | (clear q3; omega) | omega)) z) (by (first | (clear q3; omega) | omega)) (fun i z => (W_n W26 (by (first | (clear q3; omega) | omega)) (W_n W18 (by (first | (clear q3; omega) | omega)) (W_n W10 (by (first | (clear q3; omega) | omega)) rfl)))) (W_e W26) (by rw [show 40 + (x2.toInt).toNat = (v22.toInt).toNat by (first | (clear q3; omega) | omega)]; exact (((W_n W18 (by (first | (clear q3; omega) | omega)) (W_n W10 (by (first | (clear q3; omega) | omega)) rfl))).symm.trans w_25))
      exact ih M27 (u1) v30 hG28 F29 (by (first | (clear q3; omega) | omega)) (by (first | (clear q3; omega) | omega)) (by (first | (clear q3; omega) | omega)) (by (first | (clear q3; omega) | omega)) (by (first | (clear q3; omega) | omega)) (by (first | (clear q3; omega) | omega)) (by (first | (clear q3; omega) | omega)) ⟨Pn, en, (by (first | (clear q3; omega) | omega)), LQK_f (fun r i hr hi => (W_n W26 (by (first | (clear q3; omega) | omega)) (W_n W18 (by (first | (clear q3; omega) | omega)) (W_n W10 (by (first | (clear q3; omega) | omega)) rfl)))) el⟩ (fun a j z zl => by
          rcases (show a = 112 ∨ a = 113 ∨ a = 114 by (first | (clear q3; omega) | omega)) with e | e | e <;> subst e
          · exact j_36 j zl
          · exact j_37 j zl
          · exact j_38 j zl) (by (first | (clear q3; omega) | omega))
set_option maxRecDepth 4000 in
set_option maxHeartbeats 0 in
theorem U_227_1 {X : mm_X} {d : Nat} {M : mm_M} {Q : Option Value → mm_M → Prop} {n : Int32} {t : Nat → Int} {nn : Int} {sg : x_S} (hX : g_X X) (hd : 3 ≤ d) (q1 : (M.2.1 77 7).toInt ≤ (M.2.1 77 6).toInt) (q2 : FA M) (q3 : 0 ≤ n.toInt ∧ n.toInt ≤ (M.2.1 77 1).toInt → n.toInt = nn) (q4 : TR M t nn) (q5 : W9 M) (q6 : PLk M sg) (h : ∀ (r : Int32) (M1 : mm_M), g_G M1 → FR md_qu M M1 → (n.toInt < 0 ∨ (M.2.1 77 1).toInt < n.toInt → r.toInt = -2) → (-2 ≤ r.toInt) → (QGN (M.2.1 77 1).toInt n.toInt r.toInt (x_gg t nn sg 0 0 0 [] x_P0 (x_sk t nn 0)) (fun P => LQK 0 M1 P)) → ((∀ Q : x_GP, r.toInt < 0 → Q.2 ≤ 40 → LQK 0 M Q → LQK 0 M1 Q)) → (r.toInt < 0 → (M1.2.1 77 58).toInt = (M.2.1 77 58).toInt ∧ (M1.2.1 77 57).toInt = (M.2.1 77 57).toInt) → (0 ≤ r.toInt → (M1.2.1 77 58).toInt = r.toInt ∧ (M1.2.1 77 57).toInt = 1) → Q (some (.int r)) M1) : ∀ nn9 : Nat, (∀ (N : mm_M) (u1 : Value) (u2 : Value), g_G N → FR md_qu M N → ((N.2.1 77 7).toInt ≤ (N.2.1 77 6).toInt) → (FA N) → (QK N) → (RS N t nn) → (0 ≤ nn) → (nn ≤ 500) → (0 ≤ n.toInt) → (n.toInt ≤ (M.2.1 77 1).toInt) → (TR N t nn) → (W9 N) → (PLk N sg) → ((N.2.1 77 59).toInt + Wo N ((N.2.1 77 65).toInt).toNat = (N.2.1 77 69).toInt) → (∃ (W : List Int) (P : x_GP), GST N W P ∧ x_gg t nn sg 0 0 0 [] x_P0 (x_sk t nn 0) = x_gg t nn sg (N.2.1 77 68).toInt (N.2.1 77 67).toInt (N.2.1 77 69).toInt W P (N.2.1 77 10).toInt) → (∀ r i : Nat, 112 ≤ r ∧ r ≤ 114 → i < 40 → N.2.1 r i = M.2.1 r i) → ((N.2.1 77 58).toInt = (M.2.1 77 58).toInt) → ((N.2.1 77 57).toInt = (M.2.1 77 57).toInt) → 6 * (500 - (N.2.1 77 7).toInt) + (N.2.1 77 8).toInt < (nn9 : Int) → mm_T X d 226 46 [.ref 77, u1, u2] [] N Q) := by
  intro nn9
  induction nn9 with
  | zero =>
    intro N u1 u2 hG F0 g1 g2 g3 g4 g5 g6 g7 g8 g9 g10 g11 g12 g13 g14 g15 g16 hm
    have b_39 := g_b hG (a := 77) (i := 7) (lo := 0) (hi := 500) rfl rfl
    have b_40 := g_b hG (a := 77) (i := 8) (lo := 0) (hi := 5) rfl rfl
    have b_41 := g_b hG (a := 77) (i := 6) (lo := 0) (hi := 500) rfl rfl
    have b_42 := g_b hG (a := 77) (i := 58) (lo := 0) (hi := 40) rfl rfl
    have b_43 := g_b hG (a := 77) (i := 57) (lo := 0) (hi := 1) rfl rfl
    exfalso; omega
  | succ nn9 ih =>
    intro N u1 u2 hG F0 g1 g2 g3 g4 g5 g6 g7 g8 g9 g10 g11 g12 g13 g14 g15 g16 hm
    have b_44 := g_b hG (a := 77) (i := 7) (lo := 0) (hi := 500) rfl rfl
    have b_45 := g_b hG (a := 77) (i := 8) (lo := 0) (hi := 5) rfl rfl
    have b_46 := g_b hG (a := 77) (i := 6) (lo := 0) (hi := 500) rfl rfl
    have b_47 := g_b hG (a := 77) (i := 58) (lo := 0) (hi := 40) rfl rfl
    have b_48 := g_b hG (a := 77) (i := 57) (lo := 0) (hi := 1) rfl rfl
    have b_49 := g_b hG (a := 77) (i := 10) (lo := 0) (hi := 500) rfl rfl
    have b_50 := g_b hG (a := 77) (i := 67) (lo := 0) (hi := 8) rfl rfl
    have b_51 := g_b hG (a := 77) (i := 68) (lo := 0) (hi := 1) rfl rfl
    have b_52 := g_b hG (a := 77) (i := 69) (lo := 0) (hi := 40) rfl rfl
    have b_53 := g_b hG (a := 77) (i := 65) (lo := 0) (hi := 48) rfl rfl
    have b_54 := g_b hG (a := 77) (i := 66) (lo := 0) (hi := 40) rfl rfl
    have b_55 := g_b hG (a := 77) (i := 59) (lo := 0) (hi := 40) rfl rfl
    have z_56 := RS_k g4 (a := (N.2.1 77 10).toInt) (by (first | (clear q3; omega) | omega))
    have z_57 := RS_b g4 (a := (N.2.1 77 10).toInt) (by (first | (clear q3; omega) | omega))
    obtain ⟨Wn, Pn, gn, en⟩ := id g13
    refine to_an (pc := 46) rw_227_46 rfl ?_
    refine tt_gI (pc := 47) rw_227_47 (g_o hG rfl) (v := (N.2.1 77 8)) rfl ?_
    refine b_ine (pc := 50) rw_227_50 (A := (N.2.1 77 8).toInt) rfl (fun h58 => ?_) (fun h58 => ?_)
    · refine to_an (pc := 67) rw_227_67 rfl ?_
      refine tt_gI (pc := 68) rw_227_68 (g_o hG rfl) (v := (N.2.1 77 68)) rfl ?_
      refine b_ine (pc := 71) rw_227_71 (A := (N.2.1 77 68).toInt) rfl (fun h59 => ?_) (fun h59 => ?_)
      · refine to_an (pc := 84) rw_227_84 rfl ?_
        refine s_v (pc := 85) rw_227_85 (dp0 hd (by decide)) (ls0 := [.ref 77, .null]) rfl (Nat.le_of_ble_eq_true rfl) (Nat.le_of_ble_eq_true rfl) rfl (to_rc rfl rfl rfl (g_o hG rfl)) rfl ?_
        refine E_226 hX (dp1 hd (by decide)) hG (by (first | (clear q3 h58 h59; omega) | (clear q3 h58; omega) | omega)) g3 (by (first | (clear q3 h58 h59; omega) | (clear q3 h58; omega) | omega)) g4 (by (first | (clear q3 h58 h59; omega) | (clear q3 h58; omega) | omega)) (by (first | (clear q3 h58 h59; omega) | (clear q3 h58; omega) | omega)) (by (first | (clear q3 h58 h59; omega) | (clear q3 h58; omega) | omega)) g9 g10 g11 g12 (by (first | (clear q3 h58 h59; omega) | (clear q3 h58; omega) | omega)) gn (t := t) (nn := nn) (a := (N.2.1 77 10).toInt) (sg := sg) (Wl9 := Wn) (P9 := Pn) (fun r60 M74 hG62 F61 p_63 p_64 p_65 p_66 p_67 p_68 p_69 p_70 p_71 p_72 p_73 => ?_)
        have F75 := FR.c F0 F61 tg_180
        have b_76 := g_b hG62 (a := 77) (i := 7) (lo := 0) (hi := 500) rfl rfl
        have c_77 : M74.2.1 77 6 = (N.2.1 77 6) := (F_n F61 (show ¬ (77 = 77 ∧ (6 = 4 ∨ 6 = 5 ∨ 7 ≤ 6 ∧ 6 ≤ 10) ∨ 77 = 77 ∧ (6 = 59 ∨ 65 ≤ 6 ∧ 6 ≤ 69) ∨ 112 ≤ 77 ∧ 77 ≤ 114 ∧ 40 ≤ 6 ∨ 77 = 115 ∨ 77 = 116) by decide) rfl)
        have t_78 : (M74.2.1 77 6).toInt = (N.2.1 77 6).toInt := congrArg Int32.toInt c_77
        have b_79 := g_b hG62 (a := 77) (i := 8) (lo := 0) (hi := 5) rfl rfl
        rcases (show r60.toInt = 0 ∨ r60.toInt = 1 by (first | (clear q3 h58 h59 p_67 p_68 p_69 p_70 p_71 p_72 p_73; omega) | (clear q3 h58 p_67 p_68 p_69 p_70 p_71 p_72 p_73; omega) | omega)) with h80 | h80
        · skip
          have p_81 := p_73 (by (first | (clear q3 h58 h59 p_67 p_68 p_69 p_70 p_71 p_72 p_73; omega) | (clear q3 h58 p_67 p_68 p_69 p_70 p_71 p_72 p_73; omega) | omega))
          clear p_67 p_68 p_69 p_70 p_71 p_72 p_73
          have z_82 := (en.trans (g_v (show (N.2.1 77 68).toInt = 1 by (first | (clear q3 h58 h59 p_67 p_68 p_69 p_70 p_71 p_72 p_73; omega) | (clear q3 h58 p_67 p_68 p_69 p_70 p_71 p_72 p_73; omega) | omega)) rfl rfl rfl rfl)).trans p_81
          refine b_ine_f (pc := 88) rw_227_88 (A := r60.toInt) rfl (by (first | (clear q3 h58 h59 p_67 p_68 p_69 p_70 p_71 p_72 p_73; omega) | (clear q3 h58 p_67 p_68 p_69 p_70 p_71 p_72 p_73; omega) | omega)) ?_
          refine to_c (pc := 91) rw_227_91 (x := (-1 : Int32)) rfl rfl ?_
          refine to_r0 (pc := 92) rw_227_92 ?_
          have k_83 : (-1 : Int32).toInt = -1 := rfl
          have c_84 : M74.2.1 77 58 = (N.2.1 77 58) := (F_n F61 (show ¬ (77 = 77 ∧ (58 = 4 ∨ 58 = 5 ∨ 7 ≤ 58 ∧ 58 ≤ 10) ∨ 77 = 77 ∧ (58 = 59 ∨ 65 ≤ 58 ∧ 58 ≤ 69) ∨ 112 ≤ 77 ∧ 77 ≤ 114 ∧ 40 ≤ 58 ∨ 77 = 115 ∨ 77 = 116) by decide) rfl)
          have t_85 : (M74.2.1 77 58).toInt = (N.2.1 77 58).toInt := congrArg Int32.toInt c_84
          have c_86 : M74.2.1 77 57 = (N.2.1 77 57) := (F_n F61 (show ¬ (77 = 77 ∧ (57 = 4 ∨ 57 = 5 ∨ 7 ≤ 57 ∧ 57 ≤ 10) ∨ 77 = 77 ∧ (57 = 59 ∨ 65 ≤ 57 ∧ 57 ≤ 69) ∨ 112 ≤ 77 ∧ 77 ≤ 114 ∧ 40 ≤ 57 ∨ 77 = 115 ∨ 77 = 116) by decide) rfl)
          have t_87 : (M74.2.1 77 57).toInt = (N.2.1 77 57).toInt := congrArg Int32.toInt c_86
          exact h (-1 : Int32) M74 hG62 F75 (by (first | (clear q3 h58 h59 p_67 p_68 p_69 p_70 p_71 p_72 p_73; omega) | (clear q3 h58 p_67 p_68 p_69 p_70 p_71 p_72 p_73; omega) | omega)) (by (first | (clear q3 h58 h59 p_67 p_68 p_69 p_70 p_71 p_72 p_73; omega) | (clear q3 h58 p_67 p_68 p_69 p_70 p_71 p_72 p_73; omega) | omega)) (fun _ => Or.inl ⟨_, _, z_82, rfl⟩) (fun Q _ hq L => LQK_m (b := 0) (fun r i hr hi => by rw [Nat.zero_add]; exact (fun r i hr hi => ((F_n F61 (show ¬ (r = 77 ∧ (i = 4 ∨ i = 5 ∨ 7 ≤ i ∧ i ≤ 10) ∨ r = 77 ∧ (i = 59 ∨ 65 ≤ i ∧ i ≤ 69) ∨ 112 ≤ r ∧ r ≤ 114 ∧ 40 ≤ i ∨ r = 115 ∨ r = 116) by (first | (clear q3 h58 h59 p_67 p_68 p_69 p_70 p_71 p_72 p_73; omega) | (clear q3 h58 p_67 p_68 p_69 p_70 p_71 p_72 p_73; omega) | omega)) rfl)).trans (g14 r i hr hi)) r i hr (by (first | (clear q3 h58 h59 p_67 p_68 p_69 p_70 p_71 p_72 p_73; omega) | (clear q3 h58 p_67 p_68 p_69 p_70 p_71 p_72 p_73; omega) | omega))) L) (by (first | (clear q3 h58 h59 p_67 p_68 p_69 p_70 p_71 p_72 p_73; omega) | (clear q3 h58 p_67 p_68 p_69 p_70 p_71 p_72 p_73; omega) | omega)) (by (first | (clear q3 h58 h59 p_67 p_68 p_69 p_70 p_71 p_72 p_73; omega) | (clear q3 h58 p_67 p_68 p_69 p_70 p_71 p_72 p_73; omega) | omega))
        · skip
          have p_88 := p_67 (by (first | (clear q3 h58 h59 p_67 p_68 p_69 p_70 p_71 p_72 p_73; omega) | (clear q3 h58 p_67 p_68 p_69 p_70 p_71 p_72 p_73; omega) | omega))
          have p_89 := p_68 (by (first | (clear q3 h58 h59 p_67 p_68 p_69 p_70 p_71 p_72 p_73; omega) | (clear q3 h58 p_67 p_68 p_69 p_70 p_71 p_72 p_73; omega) | omega))
          have p_90 := p_69 (by (first | (clear q3 h58 h59 p_67 p_68 p_69 p_70 p_71 p_72 p_73; omega) | (clear q3 h58 p_67 p_68 p_69 p_70 p_71 p_72 p_73; omega) | omega))
          have p_91 := p_70 (by (first | (clear q3 h58 h59 p_67 p_68 p_69 p_70 p_71 p_72 p_73; omega) | (clear q3 h58 p_67 p_68 p_69 p_70 p_71 p_72 p_73; omega) | omega))
          have p_92 := p_71 (by (first | (clear q3 h58 h59 p_67 p_68 p_69 p_70 p_71 p_72 p_73; omega) | (clear q3 h58 p_67 p_68 p_69 p_70 p_71 p_72 p_73; omega) | omega))
          have p_93 := p_72 (by (first | (clear q3 h58 h59 p_67 p_68 p_69 p_70 p_71 p_72 p_73; omega) | (clear q3 h58 p_67 p_68 p_69 p_70 p_71 p_72 p_73; omega) | omega))
          clear p_67 p_68 p_69 p_70 p_71 p_72 p_73
          obtain ⟨W2, P2, gq2, eq2⟩ := p_93
          have z_94 := (en.trans (g_v (show (N.2.1 77 68).toInt = 1 by (first | (clear q3 h58 h59 p_67 p_68 p_69 p_70 p_71 p_72 p_73; omega) | (clear q3 h58 p_67 p_68 p_69 p_70 p_71 p_72 p_73; omega) | omega)) rfl rfl rfl rfl)).trans eq2
          refine b_ine_t (pc := 88) rw_227_88 (A := r60.toInt) rfl (by (first | (clear q3 h58 h59 p_67 p_68 p_69 p_70 p_71 p_72 p_73; omega) | (clear q3 h58 p_67 p_68 p_69 p_70 p_71 p_72 p_73; omega) | omega)) ?_
          have j_95 := (FA_f (tg_174 F61) g2)
          have j_96 := (TR_f (tg_175 F61) g9)
          have j_97 := (W9_f (tg_176 F61) g10)
          have j_98 := (PLk_f (tg_177 F61) g11)
          have c_99 : M74.2.1 77 58 = (N.2.1 77 58) := (F_n F61 (show ¬ (77 = 77 ∧ (58 = 4 ∨ 58 = 5 ∨ 7 ≤ 58 ∧ 58 ≤ 10) ∨ 77 = 77 ∧ (58 = 59 ∨ 65 ≤ 58 ∧ 58 ≤ 69) ∨ 112 ≤ 77 ∧ 77 ≤ 114 ∧ 40 ≤ 58 ∨ 77 = 115 ∨ 77 = 116) by decide) rfl)
          have t_100 : (M74.2.1 77 58).toInt = (N.2.1 77 58).toInt := congrArg Int32.toInt c_99
          have c_101 : M74.2.1 77 57 = (N.2.1 77 57) := (F_n F61 (show ¬ (77 = 77 ∧ (57 = 4 ∨ 57 = 5 ∨ 7 ≤ 57 ∧ 57 ≤ 10) ∨ 77 = 77 ∧ (57 = 59 ∨ 65 ≤ 57 ∧ 57 ≤ 69) ∨ 112 ≤ 77 ∧ 77 ≤ 114 ∧ 40 ≤ 57 ∨ 77 = 115 ∨ 77 = 116) by decide) rfl)
          have t_102 : (M74.2.1 77 57).toInt = (N.2.1 77 57).toInt := congrArg Int32.toInt c_101
          exact ih M74 (u1) (u2) hG62 F75 (by (first | (clear q3 h58 h59 p_67 p_68 p_69 p_70 p_71 p_72 p_73; omega) | (clear q3 h58 p_67 p_68 p_69 p_70 p_71 p_72 p_73; omega) | omega)) j_95 p_90 p_92 (by (first | (clear q3 h58 h59 p_67 p_68 p_69 p_70 p_71 p_72 p_73; omega) | (clear q3 h58 p_67 p_68 p_69 p_70 p_71 p_72 p_73; omega) | omega)) (by (first | (clear q3 h58 h59 p_67 p_68 p_69 p_70 p_71 p_72 p_73; omega) | (clear q3 h58 p_67 p_68 p_69 p_70 p_71 p_72 p_73; omega) | omega)) (by (first | (clear q3 h58 h59 p_67 p_68 p_69 p_70 p_71 p_72 p_73; omega) | (clear q3 h58 p_67 p_68 p_69 p_70 p_71 p_72 p_73; omega) | omega)) (by (first | (clear q3 h58 h59 p_67 p_68 p_69 p_70 p_71 p_72 p_73; omega) | (clear q3 h58 p_67 p_68 p_69 p_70 p_71 p_72 p_73; omega) | omega)) j_96 j_97 j_98 p_91 ⟨W2, P2, gq2, z_94⟩ (fun r i hr hi => ((F_n F61 (show ¬ (r = 77 ∧ (i = 4 ∨ i = 5 ∨ 7 ≤ i ∧ i ≤ 10) ∨ r = 77 ∧ (i = 59 ∨ 65 ≤ i ∧ i ≤ 69) ∨ 112 ≤ r ∧ r ≤ 114 ∧ 40 ≤ i ∨ r = 115 ∨ r = 116) by (first | (clear q3 h58 h59 p_67 p_68 p_69 p_70 p_71 p_72 p_73; omega) | (clear q3 h58 p_67 p_68 p_69 p_70 p_71 p_72 p_73; omega) | omega)) rfl)).trans (g14 r i hr hi)) (by (first | (clear q3 h58 h59 p_67 p_68 p_69 p_70 p_71 p_72 p_73; omega) | (clear q3 h58 p_67 p_68 p_69 p_70 p_71 p_72 p_73; omega) | omega)) (by (first | (clear q3 h58 h59 p_67 p_68 p_69 p_70 p_71 p_72 p_73; omega) | (clear q3 h58 p_67 p_68 p_69 p_70 p_71 p_72 p_73; omega) | omega)) (by (first | (clear q3 h58 h59 p_67 p_68 p_69 p_70 p_71 p_72 p_73; omega) | (clear q3 h58 p_67 p_68 p_69 p_70 p_71 p_72 p_73; omega) | omega))
      · refine to_an (pc := 74) rw_227_74 rfl ?_
        refine s_v (pc := 75) rw_227_75 (dp0 hd (by decide)) (ls0 := [.ref 77, .null, .null, .null, .null, .null]) rfl (Nat.le_of_ble_eq_true rfl) (Nat.le_of_ble_eq_true rfl) rfl (to_rc rfl rfl rfl (g_o hG rfl)) rfl ?_
        refine E_225 hX (dp1 hd (by decide)) hG (by (first | (clear q3 h58; omega) | (clear q3; omega) | omega)) g3 g2 (by (first | (clear q3 h58; omega) | (clear q3; omega) | omega)) g4 (by (first | (clear q3 h58; omega) | (clear q3; omega) | omega)) (by (first | (clear q3 h58; omega) | (clear q3; omega) | omega)) (by (first | (clear q3 h58; omega) | (clear q3; omega) | omega)) g9 g10 g11 g12 gn (t := t) (nn := nn) (a := (N.2.1 77 10).toInt) (sg := sg) (Wl9 := Wn) (P9 := Pn) (fun r103 M117 hG105 F104 p_106 p_107 p_108 p_109 p_110 p_111 p_112 p_113 p_114 p_115 p_116 => ?_)
        have F118 := FR.c F0 F104 tg_180
        have b_119 := g_b hG105 (a := 77) (i := 7) (lo := 0) (hi := 500) rfl rfl
        have c_120 : M117.2.1 77 6 = (N.2.1 77 6) := (F_n F104 (show ¬ (77 = 77 ∧ (6 = 4 ∨ 6 = 5 ∨ 7 ≤ 6 ∧ 6 ≤ 10) ∨ 77 = 77 ∧ (6 = 59 ∨ 65 ≤ 6 ∧ 6 ≤ 69) ∨ 112 ≤ 77 ∧ 77 ≤ 114 ∧ 40 ≤ 6 ∨ 77 = 115 ∨ 77 = 116) by decide) rfl)
        have t_121 : (M117.2.1 77 6).toInt = (N.2.1 77 6).toInt := congrArg Int32.toInt c_120
        rcases (show r103.toInt = 0 ∨ r103.toInt = 1 by (first | (clear q3 h58 p_110 p_111 p_112 p_113 p_114 p_115 p_116; omega) | (clear q3 p_110 p_111 p_112 p_113 p_114 p_115 p_116; omega) | omega)) with h122 | h122
        · skip
          have p_123 := p_116 (by (first | (clear q3 h58 p_110 p_111 p_112 p_113 p_114 p_115 p_116; omega) | (clear q3 p_110 p_111 p_112 p_113 p_114 p_115 p_116; omega) | omega))
          clear p_110 p_111 p_112 p_113 p_114 p_115 p_116
          have z_124 := (en.trans (g_v (show (N.2.1 77 68).toInt = 0 by (first | (clear q3 h58 p_110 p_111 p_112 p_113 p_114 p_115 p_116; omega) | (clear q3 p_110 p_111 p_112 p_113 p_114 p_115 p_116; omega) | omega)) rfl rfl rfl rfl)).trans p_123
          refine b_ieq_t (pc := 78) rw_227_78 (A := r103.toInt) rfl (by (first | (clear q3 h58 p_110 p_111 p_112 p_113 p_114 p_115 p_116; omega) | (clear q3 p_110 p_111 p_112 p_113 p_114 p_115 p_116; omega) | omega)) ?_
          refine to_c (pc := 91) rw_227_91 (x := (-1 : Int32)) rfl rfl ?_
          refine to_r0 (pc := 92) rw_227_92 ?_
          have k_125 : (-1 : Int32).toInt = -1 := rfl
          have c_126 : M117.2.1 77 58 = (N.2.1 77 58) := (F_n F104 (show ¬ (77 = 77 ∧ (58 = 4 ∨ 58 = 5 ∨ 7 ≤ 58 ∧ 58 ≤ 10) ∨ 77 = 77 ∧ (58 = 59 ∨ 65 ≤ 58 ∧ 58 ≤ 69) ∨ 112 ≤ 77 ∧ 77 ≤ 114 ∧ 40 ≤ 58 ∨ 77 = 115 ∨ 77 = 116) by decide) rfl)
          have t_127 : (M117.2.1 77 58).toInt = (N.2.1 77 58).toInt := congrArg Int32.toInt c_126
          have c_128 : M117.2.1 77 57 = (N.2.1 77 57) := (F_n F104 (show ¬ (77 = 77 ∧ (57 = 4 ∨ 57 = 5 ∨ 7 ≤ 57 ∧ 57 ≤ 10) ∨ 77 = 77 ∧ (57 = 59 ∨ 65 ≤ 57 ∧ 57 ≤ 69) ∨ 112 ≤ 77 ∧ 77 ≤ 114 ∧ 40 ≤ 57 ∨ 77 = 115 ∨ 77 = 116) by decide) rfl)
          have t_129 : (M117.2.1 77 57).toInt = (N.2.1 77 57).toInt := congrArg Int32.toInt c_128
          exact h (-1 : Int32) M117 hG105 F118 (by (first | (clear q3 h58 p_110 p_111 p_112 p_113 p_114 p_115 p_116; omega) | (clear q3 p_110 p_111 p_112 p_113 p_114 p_115 p_116; omega) | omega)) (by (first | (clear q3 h58 p_110 p_111 p_112 p_113 p_114 p_115 p_116; omega) | (clear q3 p_110 p_111 p_112 p_113 p_114 p_115 p_116; omega) | omega)) (fun _ => Or.inl ⟨_, _, z_124, rfl⟩) (fun Q _ hq L => LQK_m (b := 0) (fun r i hr hi => by rw [Nat.zero_add]; exact (fun r i hr hi => ((F_n F104 (show ¬ (r = 77 ∧ (i = 4 ∨ i = 5 ∨ 7 ≤ i ∧ i ≤ 10) ∨ r = 77 ∧ (i = 59 ∨ 65 ≤ i ∧ i ≤ 69) ∨ 112 ≤ r ∧ r ≤ 114 ∧ 40 ≤ i ∨ r = 115 ∨ r = 116) by (first | (clear q3 h58 p_110 p_111 p_112 p_113 p_114 p_115 p_116; omega) | (clear q3 p_110 p_111 p_112 p_113 p_114 p_115 p_116; omega) | omega)) rfl)).trans (g14 r i hr hi)) r i hr (by (first | (clear q3 h58 p_110 p_111 p_112 p_113 p_114 p_115 p_116; omega) | (clear q3 p_110 p_111 p_112 p_113 p_114 p_115 p_116; omega) | omega))) L) (by (first | (clear q3 h58 p_110 p_111 p_112 p_113 p_114 p_115 p_116; omega) | (clear q3 p_110 p_111 p_112 p_113 p_114 p_115 p_116; omega) | omega)) (by (first | (clear q3 h58 p_110 p_111 p_112 p_113 p_114 p_115 p_116; omega) | (clear q3 p_110 p_111 p_112 p_113 p_114 p_115 p_116; omega) | omega))
        · skip
          have p_130 := p_110 (by (first | (clear q3 h58 p_110 p_111 p_112 p_113 p_114 p_115 p_116; omega) | (clear q3 p_110 p_111 p_112 p_113 p_114 p_115 p_116; omega) | omega))
          have p_131 := p_111 (by (first | (clear q3 h58 p_110 p_111 p_112 p_113 p_114 p_115 p_116; omega) | (clear q3 p_110 p_111 p_112 p_113 p_114 p_115 p_116; omega) | omega))
          have p_132 := p_112 (by (first | (clear q3 h58 p_110 p_111 p_112 p_113 p_114 p_115 p_116; omega) | (clear q3 p_110 p_111 p_112 p_113 p_114 p_115 p_116; omega) | omega))
          have p_133 := p_113 (by (first | (clear q3 h58 p_110 p_111 p_112 p_113 p_114 p_115 p_116; omega) | (clear q3 p_110 p_111 p_112 p_113 p_114 p_115 p_116; omega) | omega))
          have p_134 := p_114 (by (first | (clear q3 h58 p_110 p_111 p_112 p_113 p_114 p_115 p_116; omega) | (clear q3 p_110 p_111 p_112 p_113 p_114 p_115 p_116; omega) | omega))
          have p_135 := p_115 (by (first | (clear q3 h58 p_110 p_111 p_112 p_113 p_114 p_115 p_116; omega) | (clear q3 p_110 p_111 p_112 p_113 p_114 p_115 p_116; omega) | omega))
          clear p_110 p_111 p_112 p_113 p_114 p_115 p_116
          obtain ⟨W2, P2, gq2, eq2⟩ := p_135
          have z_136 := (en.trans (g_v (show (N.2.1 77 68).toInt = 0 by (first | (clear q3 h58 p_110 p_111 p_112 p_113 p_114 p_115 p_116; omega) | (clear q3 p_110 p_111 p_112 p_113 p_114 p_115 p_116; omega) | omega)) rfl rfl rfl rfl)).trans eq2
          refine b_ieq_f (pc := 78) rw_227_78 (A := r103.toInt) rfl (by (first | (clear q3 h58 p_110 p_111 p_112 p_113 p_114 p_115 p_116; omega) | (clear q3 p_110 p_111 p_112 p_113 p_114 p_115 p_116; omega) | omega)) ?_
          refine to_go (pc := 81) rw_227_81 ?_
          have j_137 := (FA_f (tg_174 F104) g2)
          have j_138 := (TR_f (tg_175 F104) g9)
          have j_139 := (W9_f (tg_176 F104) g10)
          have j_140 := (PLk_f (tg_177 F104) g11)
          have c_141 : M117.2.1 77 58 = (N.2.1 77 58) := (F_n F104 (show ¬ (77 = 77 ∧ (58 = 4 ∨ 58 = 5 ∨ 7 ≤ 58 ∧ 58 ≤ 10) ∨ 77 = 77 ∧ (58 = 59 ∨ 65 ≤ 58 ∧ 58 ≤ 69) ∨ 112 ≤ 77 ∧ 77 ≤ 114 ∧ 40 ≤ 58 ∨ 77 = 115 ∨ 77 = 116) by decide) rfl)
          have t_142 : (M117.2.1 77 58).toInt = (N.2.1 77 58).toInt := congrArg Int32.toInt c_141
          have c_143 : M117.2.1 77 57 = (N.2.1 77 57) := (F_n F104 (show ¬ (77 = 77 ∧ (57 = 4 ∨ 57 = 5 ∨ 7 ≤ 57 ∧ 57 ≤ 10) ∨ 77 = 77 ∧ (57 = 59 ∨ 65 ≤ 57 ∧ 57 ≤ 69) ∨ 112 ≤ 77 ∧ 77 ≤ 114 ∧ 40 ≤ 57 ∨ 77 = 115 ∨ 77 = 116) by decide) rfl)
          have t_144 : (M117.2.1 77 57).toInt = (N.2.1 77 57).toInt := congrArg Int32.toInt c_143
          have b_145 := g_b hG105 (a := 77) (i := 8) (lo := 0) (hi := 5) rfl rfl
          exact ih M117 (u1) (u2) hG105 F118 (by (first | (clear q3 h58 p_110 p_111 p_112 p_113 p_114 p_115 p_116; omega) | (clear q3 p_110 p_111 p_112 p_113 p_114 p_115 p_116; omega) | omega)) j_137 p_132 p_134 (by (first | (clear q3 h58 p_110 p_111 p_112 p_113 p_114 p_115 p_116; omega) | (clear q3 p_110 p_111 p_112 p_113 p_114 p_115 p_116; omega) | omega)) (by (first | (clear q3 h58 p_110 p_111 p_112 p_113 p_114 p_115 p_116; omega) | (clear q3 p_110 p_111 p_112 p_113 p_114 p_115 p_116; omega) | omega)) (by (first | (clear q3 h58 p_110 p_111 p_112 p_113 p_114 p_115 p_116; omega) | (clear q3 p_110 p_111 p_112 p_113 p_114 p_115 p_116; omega) | omega)) (by (first | (clear q3 h58 p_110 p_111 p_112 p_113 p_114 p_115 p_116; omega) | (clear q3 p_110 p_111 p_112 p_113 p_114 p_115 p_116; omega) | omega)) j_138 j_139 j_140 p_133 ⟨W2, P2, gq2, z_136⟩ (fun r i hr hi => ((F_n F104 (show ¬ (r = 77 ∧ (i = 4 ∨ i = 5 ∨ 7 ≤ i ∧ i ≤ 10) ∨ r = 77 ∧ (i = 59 ∨ 65 ≤ i ∧ i ≤ 69) ∨ 112 ≤ r ∧ r ≤ 114 ∧ 40 ≤ i ∨ r = 115 ∨ r = 116) by (first | (clear q3 h58 p_110 p_111 p_112 p_113 p_114 p_115 p_116; omega) | (clear q3 p_110 p_111 p_112 p_113 p_114 p_115 p_116; omega) | omega)) rfl)).trans (g14 r i hr hi)) (by (first | (clear q3 h58 p_110 p_111 p_112 p_113 p_114 p_115 p_116; omega) | (clear q3 p_110 p_111 p_112 p_113 p_114 p_115 p_116; omega) | omega)) (by (first | (clear q3 h58 p_110 p_111 p_112 p_113 p_114 p_115 p_116; omega) | (clear q3 p_110 p_111 p_112 p_113 p_114 p_115 p_116; omega) | omega)) (by (first | (clear q3 h58 p_110 p_111 p_112 p_113 p_114 p_115 p_116; omega) | (clear q3 p_110 p_111 p_112 p_113 p_114 p_115 p_116; omega) | omega))
    · refine to_an (pc := 53) rw_227_53 rfl ?_
      refine tt_gI (pc := 54) rw_227_54 (g_o hG rfl) (v := (N.2.1 77 68)) rfl ?_
      refine b_ieq (pc := 57) rw_227_57 (A := (N.2.1 77 68).toInt) rfl (fun h146 => ?_) (fun h146 => ?_)
      · refine to_an (pc := 67) rw_227_67 rfl ?_
        refine tt_gI (pc := 68) rw_227_68 (g_o hG rfl) (v := (N.2.1 77 68)) rfl ?_
        refine b_ine_f (pc := 71) rw_227_71 (A := (N.2.1 77 68).toInt) rfl (by (first | (clear q3; omega) | omega)) ?_
        refine to_an (pc := 74) rw_227_74 rfl ?_
        refine s_v (pc := 75) rw_227_75 (dp0 hd (by decide)) (ls0 := [.ref 77, .null, .null, .null, .null, .null]) rfl (Nat.le_of_ble_eq_true rfl) (Nat.le_of_ble_eq_true rfl) rfl (to_rc rfl rfl rfl (g_o hG rfl)) rfl ?_
        refine E_225 hX (dp1 hd (by decide)) hG (by (first | (clear q3; omega) | omega)) g3 g2 (by (first | (clear q3; omega) | omega)) g4 (by (first | (clear q3; omega) | omega)) (by (first | (clear q3; omega) | omega)) (by (first | (clear q3; omega) | omega)) g9 g10 g11 g12 gn (t := t) (nn := nn) (a := (N.2.1 77 10).toInt) (sg := sg) (Wl9 := Wn) (P9 := Pn) (fun r147 M161 hG149 F148 p_150 p_151 p_152 p_153 p_154 p_155 p_156 p_157 p_158 p_159 p_160 => ?_)
        have F162 := FR.c F0 F148 tg_180
        have b_163 := g_b hG149 (a := 77) (i := 7) (lo := 0) (hi := 500) rfl rfl
        have c_164 : M161.2.1 77 6 = (N.2.1 77 6) := (F_n F148 (show ¬ (77 = 77 ∧ (6 = 4 ∨ 6 = 5 ∨ 7 ≤ 6 ∧ 6 ≤ 10) ∨ 77 = 77 ∧ (6 = 59 ∨ 65 ≤ 6 ∧ 6 ≤ 69) ∨ 112 ≤ 77 ∧ 77 ≤ 114 ∧ 40 ≤ 6 ∨ 77 = 115 ∨ 77 = 116) by decide) rfl)
        have t_165 : (M161.2.1 77 6).toInt = (N.2.1 77 6).toInt := congrArg Int32.toInt c_164
        rcases (show r147.toInt = 0 ∨ r147.toInt = 1 by (first | (clear q3 p_154 p_155 p_156 p_157 p_158 p_159 p_160; omega) | omega)) with h166 | h166
        · skip
          have p_167 := p_160 (by (first | (clear q3 p_154 p_155 p_156 p_157 p_158 p_159 p_160; omega) | omega))
          clear p_154 p_155 p_156 p_157 p_158 p_159 p_160
          have z_168 := (en.trans (g_v (show (N.2.1 77 68).toInt = 0 by (first | (clear q3 p_154 p_155 p_156 p_157 p_158 p_159 p_160; omega) | omega)) rfl rfl rfl rfl)).trans p_167
          refine b_ieq_t (pc := 78) rw_227_78 (A := r147.toInt) rfl (by (first | (clear q3 p_154 p_155 p_156 p_157 p_158 p_159 p_160; omega) | omega)) ?_
          refine to_c (pc := 91) rw_227_91 (x := (-1 : Int32)) rfl rfl ?_
          refine to_r0 (pc := 92) rw_227_92 ?_
          have k_169 : (-1 : Int32).toInt = -1 := rfl
          have c_170 : M161.2.1 77 58 = (N.2.1 77 58) := (F_n F148 (show ¬ (77 = 77 ∧ (58 = 4 ∨ 58 = 5 ∨ 7 ≤ 58 ∧ 58 ≤ 10) ∨ 77 = 77 ∧ (58 = 59 ∨ 65 ≤ 58 ∧ 58 ≤ 69) ∨ 112 ≤ 77 ∧ 77 ≤ 114 ∧ 40 ≤ 58 ∨ 77 = 115 ∨ 77 = 116) by decide) rfl)
          have t_171 : (M161.2.1 77 58).toInt = (N.2.1 77 58).toInt := congrArg Int32.toInt c_170
          have c_172 : M161.2.1 77 57 = (N.2.1 77 57) := (F_n F148 (show ¬ (77 = 77 ∧ (57 = 4 ∨ 57 = 5 ∨ 7 ≤ 57 ∧ 57 ≤ 10) ∨ 77 = 77 ∧ (57 = 59 ∨ 65 ≤ 57 ∧ 57 ≤ 69) ∨ 112 ≤ 77 ∧ 77 ≤ 114 ∧ 40 ≤ 57 ∨ 77 = 115 ∨ 77 = 116) by decide) rfl)
          have t_173 : (M161.2.1 77 57).toInt = (N.2.1 77 57).toInt := congrArg Int32.toInt c_172
          exact h (-1 : Int32) M161 hG149 F162 (by (first | (clear q3 p_154 p_155 p_156 p_157 p_158 p_159 p_160; omega) | omega)) (by (first | (clear q3 p_154 p_155 p_156 p_157 p_158 p_159 p_160; omega) | omega)) (fun _ => Or.inl ⟨_, _, z_168, rfl⟩) (fun Q _ hq L => LQK_m (b := 0) (fun r i hr hi => by rw [Nat.zero_add]; exact (fun r i hr hi => ((F_n F148 (show ¬ (r = 77 ∧ (i = 4 ∨ i = 5 ∨ 7 ≤ i ∧ i ≤ 10) ∨ r = 77 ∧ (i = 59 ∨ 65 ≤ i ∧ i ≤ 69) ∨ 112 ≤ r ∧ r ≤ 114 ∧ 40 ≤ i ∨ r = 115 ∨ r = 116) by (first | (clear q3 p_154 p_155 p_156 p_157 p_158 p_159 p_160; omega) | omega)) rfl)).trans (g14 r i hr hi)) r i hr (by (first | (clear q3 p_154 p_155 p_156 p_157 p_158 p_159 p_160; omega) | omega))) L) (by (first | (clear q3 p_154 p_155 p_156 p_157 p_158 p_159 p_160; omega) | omega)) (by (first | (clear q3 p_154 p_155 p_156 p_157 p_158 p_159 p_160; omega) | omega))
        · skip
          have p_174 := p_154 (by (first | (clear q3 p_154 p_155 p_156 p_157 p_158 p_159 p_160; omega) | omega))
          have p_175 := p_155 (by (first | (clear q3 p_154 p_155 p_156 p_157 p_158 p_159 p_160; omega) | omega))
          have p_176 := p_156 (by (first | (clear q3 p_154 p_155 p_156 p_157 p_158 p_159 p_160; omega) | omega))
          have p_177 := p_157 (by (first | (clear q3 p_154 p_155 p_156 p_157 p_158 p_159 p_160; omega) | omega))
          have p_178 := p_158 (by (first | (clear q3 p_154 p_155 p_156 p_157 p_158 p_159 p_160; omega) | omega))
          have p_179 := p_159 (by (first | (clear q3 p_154 p_155 p_156 p_157 p_158 p_159 p_160; omega) | omega))
          clear p_154 p_155 p_156 p_157 p_158 p_159 p_160
          obtain ⟨W2, P2, gq2, eq2⟩ := p_179
          have z_180 := (en.trans (g_v (show (N.2.1 77 68).toInt = 0 by (first | (clear q3 p_154 p_155 p_156 p_157 p_158 p_159 p_160; omega) | omega)) rfl rfl rfl rfl)).trans eq2
          refine b_ieq_f (pc := 78) rw_227_78 (A := r147.toInt) rfl (by (first | (clear q3 p_154 p_155 p_156 p_157 p_158 p_159 p_160; omega) | omega)) ?_
          refine to_go (pc := 81) rw_227_81 ?_
          have j_181 := (FA_f (tg_174 F148) g2)
          have j_182 := (TR_f (tg_175 F148) g9)
          have j_183 := (W9_f (tg_176 F148) g10)
          have j_184 := (PLk_f (tg_177 F148) g11)
          have c_185 : M161.2.1 77 58 = (N.2.1 77 58) := (F_n F148 (show ¬ (77 = 77 ∧ (58 = 4 ∨ 58 = 5 ∨ 7 ≤ 58 ∧ 58 ≤ 10) ∨ 77 = 77 ∧ (58 = 59 ∨ 65 ≤ 58 ∧ 58 ≤ 69) ∨ 112 ≤ 77 ∧ 77 ≤ 114 ∧ 40 ≤ 58 ∨ 77 = 115 ∨ 77 = 116) by decide) rfl)
          have t_186 : (M161.2.1 77 58).toInt = (N.2.1 77 58).toInt := congrArg Int32.toInt c_185
          have c_187 : M161.2.1 77 57 = (N.2.1 77 57) := (F_n F148 (show ¬ (77 = 77 ∧ (57 = 4 ∨ 57 = 5 ∨ 7 ≤ 57 ∧ 57 ≤ 10) ∨ 77 = 77 ∧ (57 = 59 ∨ 65 ≤ 57 ∧ 57 ≤ 69) ∨ 112 ≤ 77 ∧ 77 ≤ 114 ∧ 40 ≤ 57 ∨ 77 = 115 ∨ 77 = 116) by decide) rfl)
          have t_188 : (M161.2.1 77 57).toInt = (N.2.1 77 57).toInt := congrArg Int32.toInt c_187
          have b_189 := g_b hG149 (a := 77) (i := 8) (lo := 0) (hi := 5) rfl rfl
          exact ih M161 (u1) (u2) hG149 F162 (by (first | (clear q3 p_154 p_155 p_156 p_157 p_158 p_159 p_160; omega) | omega)) j_181 p_176 p_178 (by (first | (clear q3 p_154 p_155 p_156 p_157 p_158 p_159 p_160; omega) | omega)) (by (first | (clear q3 p_154 p_155 p_156 p_157 p_158 p_159 p_160; omega) | omega)) (by (first | (clear q3 p_154 p_155 p_156 p_157 p_158 p_159 p_160; omega) | omega)) (by (first | (clear q3 p_154 p_155 p_156 p_157 p_158 p_159 p_160; omega) | omega)) j_182 j_183 j_184 p_177 ⟨W2, P2, gq2, z_180⟩ (fun r i hr hi => ((F_n F148 (show ¬ (r = 77 ∧ (i = 4 ∨ i = 5 ∨ 7 ≤ i ∧ i ≤ 10) ∨ r = 77 ∧ (i = 59 ∨ 65 ≤ i ∧ i ≤ 69) ∨ 112 ≤ r ∧ r ≤ 114 ∧ 40 ≤ i ∨ r = 115 ∨ r = 116) by (first | (clear q3 p_154 p_155 p_156 p_157 p_158 p_159 p_160; omega) | omega)) rfl)).trans (g14 r i hr hi)) (by (first | (clear q3 p_154 p_155 p_156 p_157 p_158 p_159 p_160; omega) | omega)) (by (first | (clear q3 p_154 p_155 p_156 p_157 p_158 p_159 p_160; omega) | omega)) (by (first | (clear q3 p_154 p_155 p_156 p_157 p_158 p_159 p_160; omega) | omega))
      · refine to_an (pc := 60) rw_227_60 rfl ?_
        refine tt_gI (pc := 61) rw_227_61 (g_o hG rfl) (v := (N.2.1 77 67)) rfl ?_
        refine b_ile (pc := 64) rw_227_64 (A := (N.2.1 77 67).toInt) rfl (fun h190 => ?_) (fun h190 => ?_)
        · refine to_an (pc := 93) rw_227_93 rfl ?_
          refine to_c (pc := 94) rw_227_94 (x := (1 : Int32)) rfl rfl ?_
          refine s_v (pc := 95) rw_227_95 (dp0 hd (by decide)) (ls0 := [.ref 77, .int (1 : Int32), .null, .null, .null]) rfl (Nat.le_of_ble_eq_true rfl) (Nat.le_of_ble_eq_true rfl) rfl (to_rc rfl rfl rfl (g_o hG rfl)) rfl ?_
          have k_191 : (1 : Int32).toInt = 1 := rfl
          refine E_223 hX (dp1 hd (by decide)) hG (by (first | (clear q3 h146; omega) | (clear q3; omega) | omega)) (by (first | (clear q3 h146; omega) | (clear q3; omega) | omega)) (by (first | (clear q3 h146; omega) | (clear q3; omega) | omega)) g3 gn (l := (1 : Int32)) (Wl9 := Wn) (P9 := Pn) (fun M198 hG193 F192 p_194 p_195 p_196 p_197 => ?_)
          have F199 := FR.c F0 F192 tg_181
          have b_200 := g_b hG193 (a := 77) (i := 65) (lo := 0) (hi := 48) rfl rfl
          have c_201 : M198.2.1 77 67 = (N.2.1 77 67) := (F_n F192 (show ¬ (77 = 77 ∧ (67 = 59 ∨ 67 = 65 ∨ 67 = 66) ∨ 112 ≤ 77 ∧ 77 ≤ 114 ∧ 40 ≤ 67 ∨ 77 = 116) by decide) rfl)
          have t_202 : (M198.2.1 77 67).toInt = (N.2.1 77 67).toInt := congrArg Int32.toInt c_201
          have b_203 := g_b hG193 (a := 77) (i := 59) (lo := 0) (hi := 40) rfl rfl
          have z_204 := QK_z p_194 (by (first | (clear q3 h146 p_196; omega) | (clear q3 p_196; omega) | omega)) (by (first | (clear q3 h146 p_196; omega) | (clear q3 p_196; omega) | omega)) (p_196 rfl)
          have z_205 : GST M198 (x_bd 1 Wn Pn).1 (x_bd 1 Wn Pn).2 := by have y := p_197; rw [show (1 : Int32).toInt = 1 from rfl] at y; exact y
          have z_206 := z_205.2.2.2
          have s_207 := QK_e p_194
          have s_208 := Wx_b M198 ((M198.2.1 77 65).toInt).toNat
          have b_209 := g_b hG193 (a := 77) (i := 66) (lo := 0) (hi := 40) rfl rfl
          have c_210 : M198.2.1 77 68 = (N.2.1 77 68) := (F_n F192 (show ¬ (77 = 77 ∧ (68 = 59 ∨ 68 = 65 ∨ 68 = 66) ∨ 112 ≤ 77 ∧ 77 ≤ 114 ∧ 40 ≤ 68 ∨ 77 = 116) by decide) rfl)
          have t_211 : (M198.2.1 77 68).toInt = (N.2.1 77 68).toInt := congrArg Int32.toInt c_210
          have c_212 : M198.2.1 77 69 = (N.2.1 77 69) := (F_n F192 (show ¬ (77 = 77 ∧ (69 = 59 ∨ 69 = 65 ∨ 69 = 66) ∨ 112 ≤ 77 ∧ 77 ≤ 114 ∧ 40 ≤ 69 ∨ 77 = 116) by decide) rfl)
          have t_213 : (M198.2.1 77 69).toInt = (N.2.1 77 69).toInt := congrArg Int32.toInt c_212
          refine to_an (pc := 98) rw_227_98 rfl ?_
          refine to_an (pc := 99) rw_227_99 rfl ?_
          refine tt_gI (pc := 100) rw_227_100 (g_o hG193 rfl) (v := (M198.2.1 77 59)) rfl ?_
          refine s_pI (pc := 103) rw_227_103 hG193 rfl (fun M215 W214 => ?_)
          have hG216 := g_w hG193 W214 (A := (M198.2.1 77 59).toInt) rfl (lo := 0) (hi := 40) rfl rfl (by (first | (clear q3 h146 p_196; omega) | (clear q3 p_196; omega) | omega)) (by decide)
          have F217 := FR.w F199 W214 (show 77 = 77 ∧ (1 ≤ 58 ∧ 58 ≤ 2 ∨ 4 ≤ 58 ∧ 58 ≤ 10 ∨ 57 ≤ 58 ∧ 58 ≤ 59 ∨ 65 ≤ 58 ∧ 58 ≤ 69) ∨ 112 ≤ 77 ∧ 77 ≤ 116 by decide)
          refine to_an (pc := 106) rw_227_106 rfl ?_
          refine to_c (pc := 107) rw_227_107 (x := (1 : Int32)) rfl rfl ?_
          refine s_pZ (pc := 108) rw_227_108 hG216 rfl (A := 1) rfl (by (first | (clear q3 h146 p_196; omega) | (clear q3 p_196; omega) | omega)) (fun M219 W218 => ?_)
          have hG220 := g_w hG216 W218 (A := 1) rfl (lo := 0) (hi := 1) rfl rfl (by (first | (clear q3 h146 p_196; omega) | (clear q3 p_196; omega) | omega)) (by decide)
          have F221 := FR.w F217 W218 (show 77 = 77 ∧ (1 ≤ 57 ∧ 57 ≤ 2 ∨ 4 ≤ 57 ∧ 57 ≤ 10 ∨ 57 ≤ 57 ∧ 57 ≤ 59 ∨ 65 ≤ 57 ∧ 57 ≤ 69) ∨ 112 ≤ 77 ∧ 77 ≤ 116 by decide)
          refine to_c (pc := 111) rw_227_111 (x := (0 : Int32)) rfl rfl ?_
          refine to_isn (pc := 112) rw_227_112 (ls2 := [.ref 77, u1, .int (0 : Int32)]) rfl rfl ?_
          have k_222 : (0 : Int32).toInt = 0 := rfl
          have c_223 : M219.2.1 77 58 = (M198.2.1 77 59) := (W_n W218 (by decide) (W_e W214))
          have t_224 : (M219.2.1 77 58).toInt = (M198.2.1 77 59).toInt := congrArg Int32.toInt c_223
          have c_225 : M219.2.1 77 57 = (1 : Int32) := (W_e W218)
          have t_226 : (M219.2.1 77 57).toInt = (1 : Int32).toInt := congrArg Int32.toInt c_225
          exact (U_227_0 (n := n) (t := t) (nn := nn) (sg := sg) hX hd q1 q2 q3 q4 q5 q6 h ((40 - (0 : Int32).toInt).toNat + 1)) M219 (u1) (0 : Int32) hG220 F221 (by (first | (clear q3 h146 p_196; omega) | (clear q3 p_196; omega) | omega)) (by (first | (clear q3 h146 p_196; omega) | (clear q3 p_196; omega) | omega)) (by (first | (clear q3 h146 p_196; omega) | (clear q3 p_196; omega) | omega)) (by (first | (clear q3 h146 p_196; omega) | (clear q3 p_196; omega) | omega)) (by (first | (clear q3 h146 p_196; omega) | (clear q3 p_196; omega) | omega)) (by (first | (clear q3 h146 p_196; omega) | (clear q3 p_196; omega) | omega)) (by (first | (clear q3 h146 p_196; omega) | (clear q3 p_196; omega) | omega)) ⟨(x_bd 1 Wn Pn).2, (en.trans (g_v (show (N.2.1 77 68).toInt = 1 by (first | (clear q3 h146 p_196; omega) | (clear q3 p_196; omega) | omega)) rfl rfl rfl rfl)).trans (g_end (by (first | (clear q3 h146 p_196; omega) | (clear q3 p_196; omega) | omega)) (by (first | (clear q3 h146 p_196; omega) | (clear q3 p_196; omega) | omega)) (by (first | (clear q3 h146 p_196; omega) | (clear q3 p_196; omega) | omega)) (by (first | (clear q3 h146 p_196; omega) | (clear q3 p_196; omega) | omega))), (by (first | (clear q3 h146 p_196; omega) | (clear q3 p_196; omega) | omega)), LQK_f (fun r i hr hi => (W_n W218 (by (first | (clear q3 h146 p_196; omega) | (clear q3 p_196; omega) | omega)) (W_n W214 (by (first | (clear q3 h146 p_196; omega) | (clear q3 p_196; omega) | omega)) rfl))) z_205.2.1⟩ (fun a j _ z => absurd z (by (first | (clear q3 h146 p_196; omega) | (clear q3 p_196; omega) | omega))) (by (first | (clear q3 h146 p_196; omega) | (clear q3 p_196; omega) | omega))
        · refine to_an (pc := 67) rw_227_67 rfl ?_
          refine tt_gI (pc := 68) rw_227_68 (g_o hG rfl) (v := (N.2.1 77 68)) rfl ?_
          refine b_ine_t (pc := 71) rw_227_71 (A := (N.2.1 77 68).toInt) rfl (by (first | (clear q3 h146; omega) | (clear q3; omega) | omega)) ?_
          refine to_an (pc := 84) rw_227_84 rfl ?_
          refine s_v (pc := 85) rw_227_85 (dp0 hd (by decide)) (ls0 := [.ref 77, .null]) rfl (Nat.le_of_ble_eq_true rfl) (Nat.le_of_ble_eq_true rfl) rfl (to_rc rfl rfl rfl (g_o hG rfl)) rfl ?_
          refine E_226 hX (dp1 hd (by decide)) hG (by (first | (clear q3 h146; omega) | (clear q3; omega) | omega)) g3 (by (first | (clear q3 h146; omega) | (clear q3; omega) | omega)) g4 (by (first | (clear q3 h146; omega) | (clear q3; omega) | omega)) (by (first | (clear q3 h146; omega) | (clear q3; omega) | omega)) (by (first | (clear q3 h146; omega) | (clear q3; omega) | omega)) g9 g10 g11 g12 (by (first | (clear q3 h146; omega) | (clear q3; omega) | omega)) gn (t := t) (nn := nn) (a := (N.2.1 77 10).toInt) (sg := sg) (Wl9 := Wn) (P9 := Pn) (fun r227 M241 hG229 F228 p_230 p_231 p_232 p_233 p_234 p_235 p_236 p_237 p_238 p_239 p_240 => ?_)
          have F242 := FR.c F0 F228 tg_180
          have b_243 := g_b hG229 (a := 77) (i := 7) (lo := 0) (hi := 500) rfl rfl
          have c_244 : M241.2.1 77 6 = (N.2.1 77 6) := (F_n F228 (show ¬ (77 = 77 ∧ (6 = 4 ∨ 6 = 5 ∨ 7 ≤ 6 ∧ 6 ≤ 10) ∨ 77 = 77 ∧ (6 = 59 ∨ 65 ≤ 6 ∧ 6 ≤ 69) ∨ 112 ≤ 77 ∧ 77 ≤ 114 ∧ 40 ≤ 6 ∨ 77 = 115 ∨ 77 = 116) by decide) rfl)
          have t_245 : (M241.2.1 77 6).toInt = (N.2.1 77 6).toInt := congrArg Int32.toInt c_244
          have b_246 := g_b hG229 (a := 77) (i := 8) (lo := 0) (hi := 5) rfl rfl
          rcases (show r227.toInt = 0 ∨ r227.toInt = 1 by (first | (clear q3 h146 p_234 p_235 p_236 p_237 p_238 p_239 p_240; omega) | (clear q3 p_234 p_235 p_236 p_237 p_238 p_239 p_240; omega) | omega)) with h247 | h247
          · skip
            have p_248 := p_240 (by (first | (clear q3 h146 p_234 p_235 p_236 p_237 p_238 p_239 p_240; omega) | (clear q3 p_234 p_235 p_236 p_237 p_238 p_239 p_240; omega) | omega))
            clear p_234 p_235 p_236 p_237 p_238 p_239 p_240
            have z_249 := (en.trans (g_v (show (N.2.1 77 68).toInt = 1 by (first | (clear q3 h146 p_234 p_235 p_236 p_237 p_238 p_239 p_240; omega) | (clear q3 p_234 p_235 p_236 p_237 p_238 p_239 p_240; omega) | omega)) rfl rfl rfl rfl)).trans p_248
            refine b_ine_f (pc := 88) rw_227_88 (A := r227.toInt) rfl (by (first | (clear q3 h146 p_234 p_235 p_236 p_237 p_238 p_239 p_240; omega) | (clear q3 p_234 p_235 p_236 p_237 p_238 p_239 p_240; omega) | omega)) ?_
            refine to_c (pc := 91) rw_227_91 (x := (-1 : Int32)) rfl rfl ?_
            refine to_r0 (pc := 92) rw_227_92 ?_
            have k_250 : (-1 : Int32).toInt = -1 := rfl
            have c_251 : M241.2.1 77 58 = (N.2.1 77 58) := (F_n F228 (show ¬ (77 = 77 ∧ (58 = 4 ∨ 58 = 5 ∨ 7 ≤ 58 ∧ 58 ≤ 10) ∨ 77 = 77 ∧ (58 = 59 ∨ 65 ≤ 58 ∧ 58 ≤ 69) ∨ 112 ≤ 77 ∧ 77 ≤ 114 ∧ 40 ≤ 58 ∨ 77 = 115 ∨ 77 = 116) by decide) rfl)
            have t_252 : (M241.2.1 77 58).toInt = (N.2.1 77 58).toInt := congrArg Int32.toInt c_251
            have c_253 : M241.2.1 77 57 = (N.2.1 77 57) := (F_n F228 (show ¬ (77 = 77 ∧ (57 = 4 ∨ 57 = 5 ∨ 7 ≤ 57 ∧ 57 ≤ 10) ∨ 77 = 77 ∧ (57 = 59 ∨ 65 ≤ 57 ∧ 57 ≤ 69) ∨ 112 ≤ 77 ∧ 77 ≤ 114 ∧ 40 ≤ 57 ∨ 77 = 115 ∨ 77 = 116) by decide) rfl)
            have t_254 : (M241.2.1 77 57).toInt = (N.2.1 77 57).toInt := congrArg Int32.toInt c_253
            exact h (-1 : Int32) M241 hG229 F242 (by (first | (clear q3 h146 p_234 p_235 p_236 p_237 p_238 p_239 p_240; omega) | (clear q3 p_234 p_235 p_236 p_237 p_238 p_239 p_240; omega) | omega)) (by (first | (clear q3 h146 p_234 p_235 p_236 p_237 p_238 p_239 p_240; omega) | (clear q3 p_234 p_235 p_236 p_237 p_238 p_239 p_240; omega) | omega)) (fun _ => Or.inl ⟨_, _, z_249, rfl⟩) (fun Q _ hq L => LQK_m (b := 0) (fun r i hr hi => by rw [Nat.zero_add]; exact (fun r i hr hi => ((F_n F228 (show ¬ (r = 77 ∧ (i = 4 ∨ i = 5 ∨ 7 ≤ i ∧ i ≤ 10) ∨ r = 77 ∧ (i = 59 ∨ 65 ≤ i ∧ i ≤ 69) ∨ 112 ≤ r ∧ r ≤ 114 ∧ 40 ≤ i ∨ r = 115 ∨ r = 116) by (first | (clear q3 h146 p_234 p_235 p_236 p_237 p_238 p_239 p_240; omega) | (clear q3 p_234 p_235 p_236 p_237 p_238 p_239 p_240; omega) | omega)) rfl)).trans (g14 r i hr hi)) r i hr (by (first | (clear q3 h146 p_234 p_235 p_236 p_237 p_238 p_239 p_240; omega) | (clear q3 p_234 p_235 p_236 p_237 p_238 p_239 p_240; omega) | omega))) L) (by (first | (clear q3 h146 p_234 p_235 p_236 p_237 p_238 p_239 p_240; omega) | (clear q3 p_234 p_235 p_236 p_237 p_238 p_239 p_240; omega) | omega)) (by (first | (clear q3 h146 p_234 p_235 p_236 p_237 p_238 p_239 p_240; omega) | (clear q3 p_234 p_235 p_236 p_237 p_238 p_239 p_240; omega) | omega))
          · skip
            have p_255 := p_234 (by (first | (clear q3 h146 p_234 p_235 p_236 p_237 p_238 p_239 p_240; omega) | (clear q3 p_234 p_235 p_236 p_237 p_238 p_239 p_240; omega) | omega))
            have p_256 := p_235 (by (first | (clear q3 h146 p_234 p_235 p_236 p_237 p_238 p_239 p_240; omega) | (clear q3 p_234 p_235 p_236 p_237 p_238 p_239 p_240; omega) | omega))
            have p_257 := p_236 (by (first | (clear q3 h146 p_234 p_235 p_236 p_237 p_238 p_239 p_240; omega) | (clear q3 p_234 p_235 p_236 p_237 p_238 p_239 p_240; omega) | omega))
            have p_258 := p_237 (by (first | (clear q3 h146 p_234 p_235 p_236 p_237 p_238 p_239 p_240; omega) | (clear q3 p_234 p_235 p_236 p_237 p_238 p_239 p_240; omega) | omega))
            have p_259 := p_238 (by (first | (clear q3 h146 p_234 p_235 p_236 p_237 p_238 p_239 p_240; omega) | (clear q3 p_234 p_235 p_236 p_237 p_238 p_239 p_240; omega) | omega))
            have p_260 := p_239 (by (first | (clear q3 h146 p_234 p_235 p_236 p_237 p_238 p_239 p_240; omega) | (clear q3 p_234 p_235 p_236 p_237 p_238 p_239 p_240; omega) | omega))
            clear p_234 p_235 p_236 p_237 p_238 p_239 p_240
            obtain ⟨W2, P2, gq2, eq2⟩ := p_260
            have z_261 := (en.trans (g_v (show (N.2.1 77 68).toInt = 1 by (first | (clear q3 h146 p_234 p_235 p_236 p_237 p_238 p_239 p_240; omega) | (clear q3 p_234 p_235 p_236 p_237 p_238 p_239 p_240; omega) | omega)) rfl rfl rfl rfl)).trans eq2
            refine b_ine_t (pc := 88) rw_227_88 (A := r227.toInt) rfl (by (first | (clear q3 h146 p_234 p_235 p_236 p_237 p_238 p_239 p_240; omega) | (clear q3 p_234 p_235 p_236 p_237 p_238 p_239 p_240; omega) | omega)) ?_
            have j_262 := (FA_f (tg_174 F228) g2)
            have j_263 := (TR_f (tg_175 F228) g9)
            have j_264 := (W9_f (tg_176 F228) g10)
            have j_265 := (PLk_f (tg_177 F228) g11)
            have c_266 : M241.2.1 77 58 = (N.2.1 77 58) := (F_n F228 (show ¬ (77 = 77 ∧ (58 = 4 ∨ 58 = 5 ∨ 7 ≤ 58 ∧ 58 ≤ 10) ∨ 77 = 77 ∧ (58 = 59 ∨ 65 ≤ 58 ∧ 58 ≤ 69) ∨ 112 ≤ 77 ∧ 77 ≤ 114 ∧ 40 ≤ 58 ∨ 77 = 115 ∨ 77 = 116) by decide) rfl)
            have t_267 : (M241.2.1 77 58).toInt = (N.2.1 77 58).toInt := congrArg Int32.toInt c_266
            have c_268 : M241.2.1 77 57 = (N.2.1 77 57) := (F_n F228 (show ¬ (77 = 77 ∧ (57 = 4 ∨ 57 = 5 ∨ 7 ≤ 57 ∧ 57 ≤ 10) ∨ 77 = 77 ∧ (57 = 59 ∨ 65 ≤ 57 ∧ 57 ≤ 69) ∨ 112 ≤ 77 ∧ 77 ≤ 114 ∧ 40 ≤ 57 ∨ 77 = 115 ∨ 77 = 116) by decide) rfl)
            have t_269 : (M241.2.1 77 57).toInt = (N.2.1 77 57).toInt := congrArg Int32.toInt c_268
            exact ih M241 (u1) (u2) hG229 F242 (by (first | (clear q3 h146 p_234 p_235 p_236 p_237 p_238 p_239 p_240; omega) | (clear q3 p_234 p_235 p_236 p_237 p_238 p_239 p_240; omega) | omega)) j_262 p_257 p_259 (by (first | (clear q3 h146 p_234 p_235 p_236 p_237 p_238 p_239 p_240; omega) | (clear q3 p_234 p_235 p_236 p_237 p_238 p_239 p_240; omega) | omega)) (by (first | (clear q3 h146 p_234 p_235 p_236 p_237 p_238 p_239 p_240; omega) | (clear q3 p_234 p_235 p_236 p_237 p_238 p_239 p_240; omega) | omega)) (by (first | (clear q3 h146 p_234 p_235 p_236 p_237 p_238 p_239 p_240; omega) | (clear q3 p_234 p_235 p_236 p_237 p_238 p_239 p_240; omega) | omega)) (by (first | (clear q3 h146 p_234 p_235 p_236 p_237 p_238 p_239 p_240; omega) | (clear q3 p_234 p_235 p_236 p_237 p_238 p_239 p_240; omega) | omega)) j_263 j_264 j_265 p_258 ⟨W2, P2, gq2, z_261⟩ (fun r i hr hi => ((F_n F228 (show ¬ (r = 77 ∧ (i = 4 ∨ i = 5 ∨ 7 ≤ i ∧ i ≤ 10) ∨ r = 77 ∧ (i = 59 ∨ 65 ≤ i ∧ i ≤ 69) ∨ 112 ≤ r ∧ r ≤ 114 ∧ 40 ≤ i ∨ r = 115 ∨ r = 116) by (first | (clear q3 h146 p_234 p_235 p_236 p_237 p_238 p_239 p_240; omega) | (clear q3 p_234 p_235 p_236 p_237 p_238 p_239 p_240; omega) | omega)) rfl)).trans (g14 r i hr hi)) (by (first | (clear q3 h146 p_234 p_235 p_236 p_237 p_238 p_239 p_240; omega) | (clear q3 p_234 p_235 p_236 p_237 p_238 p_239 p_240; omega) | omega)) (by (first | (clear q3 h146 p_234 p_235 p_236 p_237 p_238 p_239 p_240; omega) | (clear q3 p_234 p_235 p_236 p_237 p_238 p_239 p_240; omega) | omega)) (by (first | (clear q3 h146 p_234 p_235 p_236 p_237 p_238 p_239 p_240; omega) | (clear q3 p_234 p_235 p_236 p_237 p_238 p_239 p_240; omega) | omega))
set_option maxRecDepth 4000 in
set_option maxHeartbeats 0 in
theorem E_227 {X : mm_X} {d : Nat} {M : mm_M} {Q : Option Value → mm_M → Prop} {n : Int32} {t : Nat → Int} {nn : Int} {sg : x_S} (hX : g_X X) (hd : 3 ≤ d) (hG : g_G M) (q1 : (M.2.1 77 7).toInt ≤ (M.2.1 77 6).toInt) (q2 : FA M) (q3 : 0 ≤ n.toInt ∧ n.toInt ≤ (M.2.1 77 1).toInt → n.toInt = nn) (q4 : TR M t nn) (q5 : W9 M) (q6 : PLk M sg) (h : ∀ (r : Int32) (M1 : mm_M), g_G M1 → FR md_qu M M1 → (n.toInt < 0 ∨ (M.2.1 77 1).toInt < n.toInt → r.toInt = -2) → (-2 ≤ r.toInt) → (QGN (M.2.1 77 1).toInt n.toInt r.toInt (x_gg t nn sg 0 0 0 [] x_P0 (x_sk t nn 0)) (fun P => LQK 0 M1 P)) → ((∀ Q : x_GP, r.toInt < 0 → Q.2 ≤ 40 → LQK 0 M Q → LQK 0 M1 Q)) → (r.toInt < 0 → (M1.2.1 77 58).toInt = (M.2.1 77 58).toInt ∧ (M1.2.1 77 57).toInt = (M.2.1 77 57).toInt) → (0 ≤ r.toInt → (M1.2.1 77 58).toInt = r.toInt ∧ (M1.2.1 77 57).toInt = 1) → Q (some (.int r)) M1) : mm_T X d 226 0 [.ref 77, .int n, .null] [] M Q := by
  have F0 : FR md_qu M M := FR.rf
  have b_270 := g_b hG (a := 77) (i := 7) (lo := 0) (hi := 500) rfl rfl
  have b_271 := g_b hG (a := 77) (i := 6) (lo := 0) (hi := 500) rfl rfl
  have b_272 := g_b hG (a := 77) (i := 1) (lo := 0) (hi := 500) rfl rfl
  have b_273 := g_b hG (a := 77) (i := 57) (lo := 0) (hi := 1) rfl rfl
  have b_274 := g_b hG (a := 77) (i := 58) (lo := 0) (hi := 40) rfl rfl
  refine to_an (pc := 0) rw_227_0 rfl ?_
  refine to_c (pc := 1) rw_227_1 (x := (0 : Int32)) rfl rfl ?_
  refine s_pI (pc := 2) rw_227_2 hG rfl (fun M276 W275 => ?_)
  have hG277 := g_wf hG W275 rfl rfl (by decide)
  have F278 := FR.w F0 W275 (show 77 = 77 ∧ (1 ≤ 2 ∧ 2 ≤ 2 ∨ 4 ≤ 2 ∧ 2 ≤ 10 ∨ 57 ≤ 2 ∧ 2 ≤ 59 ∨ 65 ≤ 2 ∧ 2 ≤ 69) ∨ 112 ≤ 77 ∧ 77 ≤ 116 by decide)
  refine to_an (pc := 5) rw_227_5 rfl ?_
  refine to_in (pc := 6) rw_227_6 rfl ?_
  refine s_v (pc := 7) rw_227_7 (dp0 hd (by decide)) (ls0 := [.ref 77, .int n]) rfl (Nat.le_of_ble_eq_true rfl) (Nat.le_of_ble_eq_true rfl) rfl (to_rc rfl rfl rfl (g_o hG277 rfl)) rfl ?_
  have c_279 : M276.2.1 77 1 = (M.2.1 77 1) := (W_n W275 (by decide) rfl)
  have t_280 : (M276.2.1 77 1).toInt = (M.2.1 77 1).toInt := congrArg Int32.toInt c_279
  have c_281 : M276.2.1 77 7 = (M.2.1 77 7) := (W_n W275 (by decide) rfl)
  have t_282 : (M276.2.1 77 7).toInt = (M.2.1 77 7).toInt := congrArg Int32.toInt c_281
  have c_283 : M276.2.1 77 6 = (M.2.1 77 6) := (W_n W275 (by decide) rfl)
  have t_284 : (M276.2.1 77 6).toInt = (M.2.1 77 6).toInt := congrArg Int32.toInt c_283
  have j_285 := (TR_f (fun a i z => W_n W275 (tg_88 a i z) rfl) q4)
  have j_286 := (W9_f (fun a i z => W_n W275 (tg_89 a i z) rfl) q5)
  refine E_163 hX (dp1 hd (by decide)) hG277 (by (first | (clear q3; omega) | omega)) (by (first | (clear q3; omega) | omega)) j_285 j_286 (n := n) (fun r287 M296 hG289 F288 p_290 p_291 p_292 p_293 p_294 p_295 => ?_)
  have F297 := FR.c F278 F288 tg_182
  have b_298 := g_b hG289 (a := 77) (i := 7) (lo := 0) (hi := 500) rfl rfl
  have b_299 := g_b hG289 (a := 77) (i := 6) (lo := 0) (hi := 500) rfl rfl
  have b_300 := g_b hG289 (a := 77) (i := 1) (lo := 0) (hi := 500) rfl rfl
  rcases (show r287.toInt = 0 ∨ r287.toInt = 1 by (first | (clear q3 p_293 p_294 p_295; omega) | omega)) with h301 | h301
  · skip
    clear p_295
    refine b_ine_f (pc := 10) rw_227_10 (A := r287.toInt) rfl (by (first | (clear q3 p_293 p_294 p_295; omega) | omega)) ?_
    refine to_c (pc := 13) rw_227_13 (x := (-2 : Int32)) rfl rfl ?_
    refine to_r0 (pc := 15) rw_227_15 ?_
    have k_302 : (-2 : Int32).toInt = -2 := rfl
    have c_303 : M296.2.1 77 58 = (M.2.1 77 58) := (F_n F288 (show ¬ (77 = 77 ∧ (58 = 1 ∨ 4 ≤ 58 ∧ 58 ≤ 10)) by decide) (W_n W275 (by decide) rfl))
    have t_304 : (M296.2.1 77 58).toInt = (M.2.1 77 58).toInt := congrArg Int32.toInt c_303
    have c_305 : M296.2.1 77 57 = (M.2.1 77 57) := (F_n F288 (show ¬ (77 = 77 ∧ (57 = 1 ∨ 4 ≤ 57 ∧ 57 ≤ 10)) by decide) (W_n W275 (by decide) rfl))
    have t_306 : (M296.2.1 77 57).toInt = (M.2.1 77 57).toInt := congrArg Int32.toInt c_305
    exact h (-2 : Int32) M296 hG289 F297 (by (first | (clear q3 p_293 p_294 p_295; omega) | omega)) (by (first | (clear q3 p_293 p_294 p_295; omega) | omega)) (fun z => by exfalso; omega) (fun Q _ hq L => LQK_m (b := 0) (fun r i hr _ => by rw [Nat.zero_add]; exact (F_n F288 (show ¬ (r = 77 ∧ (i = 1 ∨ 4 ≤ i ∧ i ≤ 10)) by (first | (clear q3 p_293 p_294 p_295; omega) | omega)) (W_n W275 (by (first | (clear q3 p_293 p_294 p_295; omega) | omega)) rfl))) L) (by (first | (clear q3 p_293 p_294 p_295; omega) | omega)) (by (first | (clear q3 p_293 p_294 p_295; omega) | omega))
  · skip
    have p_307 := p_295 (by (first | (clear q3 p_293 p_294 p_295; omega) | omega))
    clear p_295
    have b_308 := g_b hG289 (a := 77) (i := 10) (lo := 0) (hi := 500) rfl rfl
    have z_309 := p_307.2
    refine b_ine_t (pc := 10) rw_227_10 (A := r287.toInt) rfl (by (first | (clear q3 p_293 p_294 p_295; omega) | omega)) ?_
    refine to_an (pc := 16) rw_227_16 rfl ?_
    refine to_c (pc := 17) rw_227_17 (x := (0 : Int32)) rfl rfl ?_
    refine s_pI (pc := 18) rw_227_18 hG289 rfl (fun M311 W310 => ?_)
    have hG312 := g_w hG289 W310 (A := 0) rfl (lo := 0) (hi := 40) rfl rfl (by (first | (clear q3 p_293 p_294 p_295; omega) | omega)) (by decide)
    have F313 := FR.w F297 W310 (show 77 = 77 ∧ (1 ≤ 59 ∧ 59 ≤ 2 ∨ 4 ≤ 59 ∧ 59 ≤ 10 ∨ 57 ≤ 59 ∧ 59 ≤ 59 ∨ 65 ≤ 59 ∧ 59 ≤ 69) ∨ 112 ≤ 77 ∧ 77 ≤ 116 by decide)
    refine to_an (pc := 21) rw_227_21 rfl ?_
    refine to_c (pc := 22) rw_227_22 (x := (0 : Int32)) rfl rfl ?_
    refine s_pI (pc := 23) rw_227_23 hG312 rfl (fun M315 W314 => ?_)
    have hG316 := g_w hG312 W314 (A := 0) rfl (lo := 0) (hi := 40) rfl rfl (by (first | (clear q3 p_293 p_294 p_295; omega) | omega)) (by decide)
    have F317 := FR.w F313 W314 (show 77 = 77 ∧ (1 ≤ 69 ∧ 69 ≤ 2 ∨ 4 ≤ 69 ∧ 69 ≤ 10 ∨ 57 ≤ 69 ∧ 69 ≤ 59 ∨ 65 ≤ 69 ∧ 69 ≤ 69) ∨ 112 ≤ 77 ∧ 77 ≤ 116 by decide)
    refine to_an (pc := 26) rw_227_26 rfl ?_
    refine to_c (pc := 27) rw_227_27 (x := (0 : Int32)) rfl rfl ?_
    refine s_pI (pc := 28) rw_227_28 hG316 rfl (fun M319 W318 => ?_)
    have hG320 := g_w hG316 W318 (A := 0) rfl (lo := 0) (hi := 48) rfl rfl (by (first | (clear q3 p_293 p_294 p_295; omega) | omega)) (by decide)
    have F321 := FR.w F317 W318 (show 77 = 77 ∧ (1 ≤ 65 ∧ 65 ≤ 2 ∨ 4 ≤ 65 ∧ 65 ≤ 10 ∨ 57 ≤ 65 ∧ 65 ≤ 59 ∨ 65 ≤ 65 ∧ 65 ≤ 69) ∨ 112 ≤ 77 ∧ 77 ≤ 116 by decide)
    refine to_an (pc := 31) rw_227_31 rfl ?_
    refine to_c (pc := 32) rw_227_32 (x := (0 : Int32)) rfl rfl ?_
    refine s_pI (pc := 33) rw_227_33 hG320 rfl (fun M323 W322 => ?_)
    have hG324 := g_w hG320 W322 (A := 0) rfl (lo := 0) (hi := 40) rfl rfl (by (first | (clear q3 p_293 p_294 p_295; omega) | omega)) (by decide)
    have F325 := FR.w F321 W322 (show 77 = 77 ∧ (1 ≤ 66 ∧ 66 ≤ 2 ∨ 4 ≤ 66 ∧ 66 ≤ 10 ∨ 57 ≤ 66 ∧ 66 ≤ 59 ∨ 65 ≤ 66 ∧ 66 ≤ 69) ∨ 112 ≤ 77 ∧ 77 ≤ 116 by decide)
    refine to_an (pc := 36) rw_227_36 rfl ?_
    refine to_c (pc := 37) rw_227_37 (x := (0 : Int32)) rfl rfl ?_
    refine s_pI (pc := 38) rw_227_38 hG324 rfl (fun M327 W326 => ?_)
    have hG328 := g_w hG324 W326 (A := 0) rfl (lo := 0) (hi := 8) rfl rfl (by (first | (clear q3 p_293 p_294 p_295; omega) | omega)) (by decide)
    have F329 := FR.w F325 W326 (show 77 = 77 ∧ (1 ≤ 67 ∧ 67 ≤ 2 ∨ 4 ≤ 67 ∧ 67 ≤ 10 ∨ 57 ≤ 67 ∧ 67 ≤ 59 ∨ 65 ≤ 67 ∧ 67 ≤ 69) ∨ 112 ≤ 77 ∧ 77 ≤ 116 by decide)
    refine to_an (pc := 41) rw_227_41 rfl ?_
    refine to_c (pc := 42) rw_227_42 (x := (0 : Int32)) rfl rfl ?_
    refine s_pI (pc := 43) rw_227_43 hG328 rfl (fun M331 W330 => ?_)
    have hG332 := g_w hG328 W330 (A := 0) rfl (lo := 0) (hi := 1) rfl rfl (by (first | (clear q3 p_293 p_294 p_295; omega) | omega)) (by decide)
    have F333 := FR.w F329 W330 (show 77 = 77 ∧ (1 ≤ 68 ∧ 68 ≤ 2 ∨ 4 ≤ 68 ∧ 68 ≤ 10 ∨ 57 ≤ 68 ∧ 68 ≤ 59 ∨ 65 ≤ 68 ∧ 68 ≤ 69) ∨ 112 ≤ 77 ∧ 77 ≤ 116 by decide)
    have c_334 : M331.2.1 77 59 = (0 : Int32) := (W_n W330 (by decide) (W_n W326 (by decide) (W_n W322 (by decide) (W_n W318 (by decide) (W_n W314 (by decide) (W_e W310))))))
    have k_335 : (0 : Int32).toInt = 0 := rfl
    have t_336 : (M331.2.1 77 59).toInt = (0 : Int32).toInt := congrArg Int32.toInt c_334
    have c_337 : M331.2.1 77 65 = (0 : Int32) := (W_n W330 (by decide) (W_n W326 (by decide) (W_n W322 (by decide) (W_e W318))))
    have t_338 : (M331.2.1 77 65).toInt = (0 : Int32).toInt := congrArg Int32.toInt c_337
    have c_339 : M331.2.1 77 66 = (0 : Int32) := (W_n W330 (by decide) (W_n W326 (by decide) (W_e W322)))
    have t_340 : (M331.2.1 77 66).toInt = (0 : Int32).toInt := congrArg Int32.toInt c_339
    have c_341 : M331.2.1 77 67 = (0 : Int32) := (W_n W330 (by decide) (W_e W326))
    have t_342 : (M331.2.1 77 67).toInt = (0 : Int32).toInt := congrArg Int32.toInt c_341
    have c_343 : M331.2.1 77 68 = (0 : Int32) := (W_e W330)
    have t_344 : (M331.2.1 77 68).toInt = (0 : Int32).toInt := congrArg Int32.toInt c_343
    have c_345 : M331.2.1 77 69 = (0 : Int32) := (W_n W330 (by decide) (W_n W326 (by decide) (W_n W322 (by decide) (W_n W318 (by decide) (W_e W314)))))
    have t_346 : (M331.2.1 77 69).toInt = (0 : Int32).toInt := congrArg Int32.toInt c_345
    have j_347 : QK M331 := QK_0 (by (first | (clear q3 p_293 p_294 p_295; omega) | omega)) (by (first | (clear q3 p_293 p_294 p_295; omega) | omega)) (by (first | (clear q3 p_293 p_294 p_295; omega) | omega)) (by (first | (clear q3 p_293 p_294 p_295; omega) | omega)) (by (first | (clear q3 p_293 p_294 p_295; omega) | omega)) (by (first | (clear q3 p_293 p_294 p_295; omega) | omega))
    have c_348 : M331.2.1 77 7 = (M296.2.1 77 7) := (W_n W330 (by decide) (W_n W326 (by decide) (W_n W322 (by decide) (W_n W318 (by decide) (W_n W314 (by decide) (W_n W310 (by decide) rfl))))))
    have t_349 : (M331.2.1 77 7).toInt = (M296.2.1 77 7).toInt := congrArg Int32.toInt c_348
    have c_350 : M331.2.1 77 6 = (M296.2.1 77 6) := (W_n W330 (by decide) (W_n W326 (by decide) (W_n W322 (by decide) (W_n W318 (by decide) (W_n W314 (by decide) (W_n W310 (by decide) rfl))))))
    have t_351 : (M331.2.1 77 6).toInt = (M296.2.1 77 6).toInt := congrArg Int32.toInt c_350
    have j_352 := (FA_f (fun a i z => W_n W330 (tg_170 a i z) rfl) (FA_f (fun a i z => W_n W326 (tg_183 a i z) rfl) (FA_f (fun a i z => W_n W322 (tg_184 a i z) rfl) (FA_f (fun a i z => W_n W318 (tg_185 a i z) rfl) (FA_f (fun a i z => W_n W314 (tg_172 a i z) rfl) (FA_f (fun a i z => W_n W310 (tg_186 a i z) rfl) (FA_f (tg_178 F288) (FA_f (fun a i z => W_n W275 (tg_94 a i z) rfl) q2))))))))
    have j_353 := (RS_f (fun a i z => W_n W330 (tg_153 a i z) rfl) (RS_f (fun a i z => W_n W326 (tg_147 a i z) rfl) (RS_f (fun a i z => W_n W322 (tg_187 a i z) rfl) (RS_f (fun a i z => W_n W318 (tg_148 a i z) rfl) (RS_f (fun a i z => W_n W314 (tg_155 a i z) rfl) (RS_f (fun a i z => W_n W310 (tg_188 a i z) rfl) p_307.1))))))
    have j_354 := (TR_f (fun a i z => W_n W330 (tg_156 a i z) rfl) (TR_f (fun a i z => W_n W326 (tg_149 a i z) rfl) (TR_f (fun a i z => W_n W322 (tg_189 a i z) rfl) (TR_f (fun a i z => W_n W318 (tg_150 a i z) rfl) (TR_f (fun a i z => W_n W314 (tg_158 a i z) rfl) (TR_f (fun a i z => W_n W310 (tg_190 a i z) rfl) (TR_f (tg_73 F288) j_285)))))))
    have j_355 := (W9_f (fun a i z => W_n W330 (tg_159 a i z) rfl) (W9_f (fun a i z => W_n W326 (tg_151 a i z) rfl) (W9_f (fun a i z => W_n W322 (tg_191 a i z) rfl) (W9_f (fun a i z => W_n W318 (tg_152 a i z) rfl) (W9_f (fun a i z => W_n W314 (tg_161 a i z) rfl) (W9_f (fun a i z => W_n W310 (tg_192 a i z) rfl) (W9_f (tg_75 F288) j_286)))))))
    have j_356 := (PLk_f (fun a i z => W_n W330 (tg_171 a i z) rfl) (PLk_f (fun a i z => W_n W326 (tg_193 a i z) rfl) (PLk_f (fun a i z => W_n W322 (tg_194 a i z) rfl) (PLk_f (fun a i z => W_n W318 (tg_195 a i z) rfl) (PLk_f (fun a i z => W_n W314 (tg_173 a i z) rfl) (PLk_f (fun a i z => W_n W310 (tg_196 a i z) rfl) (PLk_f (tg_179 F288) (PLk_f (fun a i z => W_n W275 (tg_91 a i z) rfl) q6))))))))
    have c_357 : M331.2.1 77 10 = (M296.2.1 77 10) := (W_n W330 (by decide) (W_n W326 (by decide) (W_n W322 (by decide) (W_n W318 (by decide) (W_n W314 (by decide) (W_n W310 (by decide) rfl))))))
    have t_358 : (M331.2.1 77 10).toInt = (M296.2.1 77 10).toInt := congrArg Int32.toInt c_357
    have c_359 : M331.2.1 77 58 = (M.2.1 77 58) := (W_n W330 (by decide) (W_n W326 (by decide) (W_n W322 (by decide) (W_n W318 (by decide) (W_n W314 (by decide) (W_n W310 (by decide) (F_n F288 (show ¬ (77 = 77 ∧ (58 = 1 ∨ 4 ≤ 58 ∧ 58 ≤ 10)) by decide) (W_n W275 (by decide) rfl))))))))
    have t_360 : (M331.2.1 77 58).toInt = (M.2.1 77 58).toInt := congrArg Int32.toInt c_359
    have c_361 : M331.2.1 77 57 = (M.2.1 77 57) := (W_n W330 (by decide) (W_n W326 (by decide) (W_n W322 (by decide) (W_n W318 (by decide) (W_n W314 (by decide) (W_n W310 (by decide) (F_n F288 (show ¬ (77 = 77 ∧ (57 = 1 ∨ 4 ≤ 57 ∧ 57 ≤ 10)) by decide) (W_n W275 (by decide) rfl))))))))
    have t_362 : (M331.2.1 77 57).toInt = (M.2.1 77 57).toInt := congrArg Int32.toInt c_361
    have c_363 : M331.2.1 77 8 = (M296.2.1 77 8) := (W_n W330 (by decide) (W_n W326 (by decide) (W_n W322 (by decide) (W_n W318 (by decide) (W_n W314 (by decide) (W_n W310 (by decide) rfl))))))
    have b_364 := g_b hG289 (a := 77) (i := 8) (lo := 0) (hi := 5) rfl rfl
    have t_365 : (M331.2.1 77 8).toInt = (M296.2.1 77 8).toInt := congrArg Int32.toInt c_363
    exact (U_227_1 (n := n) (t := t) (nn := nn) (sg := sg) hX hd q1 q2 q3 q4 q5 q6 h ((6 * (500 - (M331.2.1 77 7).toInt) + (M331.2.1 77 8).toInt).toNat + 1)) M331 (.int n) (.null) hG332 F333 (by (first | (clear q3 p_293 p_294 p_295; omega) | omega)) j_352 j_347 j_353 (by (first | (clear q3 p_293 p_294 p_295; omega) | omega)) (by (first | (clear q3 p_293 p_294 p_295; omega) | omega)) (by (first | (clear q3 p_293 p_294 p_295; omega) | omega)) (by (first | (clear q3 p_293 p_294 p_295; omega) | omega)) j_354 j_355 j_356 (QE_0 (by (first | (clear q3 p_293 p_294 p_295; omega) | omega)) (by (first | (clear q3 p_293 p_294 p_295; omega) | omega)) (by (first | (clear q3 p_293 p_294 p_295; omega) | omega))) ⟨[], x_P0, GST_0 (by (first | (clear q3 p_293 p_294 p_295; omega) | omega)) (by (first | (clear q3 p_293 p_294 p_295; omega) | omega)) (by (first | (clear q3 p_293 p_294 p_295; omega) | omega)), (g_v (by (first | (clear q3 p_293 p_294 p_295; omega) | omega)) (by (first | (clear q3 p_293 p_294 p_295; omega) | omega)) (by (first | (clear q3 p_293 p_294 p_295; omega) | omega)) rfl (by (first | (clear q3 p_293 p_294 p_295; omega) | omega)))⟩ (fun r i hr hi => (W_n W330 (by (first | (clear q3 p_293 p_294 p_295; omega) | omega)) (W_n W326 (by (first | (clear q3 p_293 p_294 p_295; omega) | omega)) (W_n W322 (by (first | (clear q3 p_293 p_294 p_295; omega) | omega)) (W_n W318 (by (first | (clear q3 p_293 p_294 p_295; omega) | omega)) (W_n W314 (by (first | (clear q3 p_293 p_294 p_295; omega) | omega)) (W_n W310 (by (first | (clear q3 p_293 p_294 p_295; omega) | omega)) (F_n F288 (show ¬ (r = 77 ∧ (i = 1 ∨ 4 ≤ i ∧ i ≤ 10)) by (first | (clear q3 p_293 p_294 p_295; omega) | omega)) (W_n W275 (by (first | (clear q3 p_293 p_294 p_295; omega) | omega)) rfl))))))))) (by (first | (clear q3 p_293 p_294 p_295; omega) | omega)) (by (first | (clear q3 p_293 p_294 p_295; omega) | omega)) (by (first | (clear q3 p_293 p_294 p_295; omega) | omega))
