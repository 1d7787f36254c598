theorem tg_234 {M M1 : mm_M} (F : FR (fun a i : Nat => a = 77 ∧ (i = 4 ∨ i = 5 ∨ 7 ≤ i ∧ i ≤ 10 ∨ 14 ≤ i ∧ i ≤ 16 ∨ i = 25) ∨ 80 ≤ a ∧ a ≤ 84 ∧ 8 ≤ i ∨ 85 ≤ a ∧ a ≤ 87 ∧ 12 ≤ i) M M1) : ∀ a i : Nat, WC_r a i → M1.2.1 a i = M.2.1 a i := fun a i z => F_n F (show ¬ (a = 77 ∧ (i = 4 ∨ i = 5 ∨ 7 ≤ i ∧ i ≤ 10 ∨ 14 ≤ i ∧ i ≤ 16 ∨ i = 25) ∨ 80 ≤ a ∧ a ≤ 84 ∧ 8 ≤ i ∨ 85 ≤ a ∧ a ≤ 87 ∧ 12 ≤ i) by omega) rfl
theorem tg_235 {M M1 : mm_M} (F : FR (fun a i : Nat => a = 77 ∧ (i = 4 ∨ i = 5 ∨ 7 ≤ i ∧ i ≤ 10 ∨ 14 ≤ i ∧ i ≤ 16 ∨ i = 25) ∨ 80 ≤ a ∧ a ≤ 84 ∧ 8 ≤ i ∨ 85 ≤ a ∧ a ≤ 87 ∧ 12 ≤ i) M M1) : ∀ a i : Nat, NJ_r a i → M1.2.1 a i = M.2.1 a i := fun a i z => F_n F (show ¬ (a = 77 ∧ (i = 4 ∨ i = 5 ∨ 7 ≤ i ∧ i ≤ 10 ∨ 14 ≤ i ∧ i ≤ 16 ∨ i = 25) ∨ 80 ≤ a ∧ a ≤ 84 ∧ 8 ≤ i ∨ 85 ≤ a ∧ a ≤ 87 ∧ 12 ≤ i) by omega) rfl
theorem tg_236 {M M1 : mm_M} (F : FR (fun a i : Nat => a = 77 ∧ (i = 4 ∨ i = 5 ∨ 7 ≤ i ∧ i ≤ 10 ∨ 14 ≤ i ∧ i ≤ 16 ∨ i = 25) ∨ 80 ≤ a ∧ a ≤ 84 ∧ 8 ≤ i ∨ 85 ≤ a ∧ a ≤ 87 ∧ 12 ≤ i) M M1) : ∀ a i : Nat, (a = 100 ∨ a = 77 ∧ i = 28) → M1.2.1 a i = M.2.1 a i := fun a i z => F_n F (show ¬ (a = 77 ∧ (i = 4 ∨ i = 5 ∨ 7 ≤ i ∧ i ≤ 10 ∨ 14 ≤ i ∧ i ≤ 16 ∨ i = 25) ∨ 80 ≤ a ∧ a ≤ 84 ∧ 8 ≤ i ∨ 85 ≤ a ∧ a ≤ 87 ∧ 12 ≤ i) by omega) rfl
theorem tg_237 {M M1 : mm_M} (F : FR (fun a i : Nat => a = 77 ∧ (i = 4 ∨ i = 5 ∨ 7 ≤ i ∧ i ≤ 10 ∨ 14 ≤ i ∧ i ≤ 16 ∨ i = 25) ∨ 80 ≤ a ∧ a ≤ 84 ∧ 8 ≤ i ∨ 85 ≤ a ∧ a ≤ 87 ∧ 12 ≤ i) M M1) : ∀ a i : Nat, KQ_r a i → M1.2.1 a i = M.2.1 a i := fun a i z => F_n F (show ¬ (a = 77 ∧ (i = 4 ∨ i = 5 ∨ 7 ≤ i ∧ i ≤ 10 ∨ 14 ≤ i ∧ i ≤ 16 ∨ i = 25) ∨ 80 ≤ a ∧ a ≤ 84 ∧ 8 ≤ i ∨ 85 ≤ a ∧ a ≤ 87 ∧ 12 ≤ i) by omega) rfl
theorem tg_238 {M M1 : mm_M} (F : FR (fun a i : Nat => a = 77 ∧ (14 ≤ i ∧ i ≤ 16 ∨ i = 25)) M M1) : ∀ a i : Nat, (81 ≤ a ∧ a ≤ 84) → M1.2.1 a i = M.2.1 a i := fun a i z => F_n F (show ¬ (a = 77 ∧ (14 ≤ i ∧ i ≤ 16 ∨ i = 25)) by omega) rfl
theorem tg_239 {M M1 : mm_M} (F : FR (fun a i : Nat => a = 77 ∧ (i = 1 ∨ 4 ≤ i ∧ i ≤ 10)) M M1) : ∀ a i : Nat, (81 ≤ a ∧ a ≤ 84) → M1.2.1 a i = M.2.1 a i := fun a i z => F_n F (show ¬ (a = 77 ∧ (i = 1 ∨ 4 ≤ i ∧ i ≤ 10)) by omega) rfl
theorem tg_240 {M M1 : mm_M} (F : FR (fun a i : Nat => a = 77 ∧ (14 ≤ i ∧ i ≤ 16 ∨ i = 25)) M M1) : ∀ a i : Nat, WC_r a i → M1.2.1 a i = M.2.1 a i := fun a i z => F_n F (show ¬ (a = 77 ∧ (14 ≤ i ∧ i ≤ 16 ∨ i = 25)) by omega) rfl
theorem tg_241 {M M1 : mm_M} (F : FR (fun a i : Nat => a = 77 ∧ (i = 1 ∨ 4 ≤ i ∧ i ≤ 10)) M M1) : ∀ a i : Nat, WC_r a i → M1.2.1 a i = M.2.1 a i := fun a i z => F_n F (show ¬ (a = 77 ∧ (i = 1 ∨ 4 ≤ i ∧ i ≤ 10)) by omega) rfl
theorem tg_242 {M M1 : mm_M} (F : FR (fun a i : Nat => a = 77 ∧ (14 ≤ i ∧ i ≤ 16 ∨ i = 25)) M M1) : ∀ a i : Nat, NJ_r a i → M1.2.1 a i = M.2.1 a i := fun a i z => F_n F (show ¬ (a = 77 ∧ (14 ≤ i ∧ i ≤ 16 ∨ i = 25)) by omega) rfl
theorem tg_243 {M M1 : mm_M} (F : FR (fun a i : Nat => a = 77 ∧ (i = 1 ∨ 4 ≤ i ∧ i ≤ 10)) M M1) : ∀ a i : Nat, NJ_r a i → M1.2.1 a i = M.2.1 a i := fun a i z => F_n F (show ¬ (a = 77 ∧ (i = 1 ∨ 4 ≤ i ∧ i ≤ 10)) by omega) rfl
theorem tg_244 {M M1 : mm_M} (F : FR (fun a i : Nat => a = 77 ∧ (14 ≤ i ∧ i ≤ 16 ∨ i = 25)) M M1) : ∀ a i : Nat, (a = 100 ∨ a = 77 ∧ i = 28) → M1.2.1 a i = M.2.1 a i := fun a i z => F_n F (show ¬ (a = 77 ∧ (14 ≤ i ∧ i ≤ 16 ∨ i = 25)) by omega) rfl
theorem tg_245 {M M1 : mm_M} (F : FR (fun a i : Nat => a = 77 ∧ (i = 1 ∨ 4 ≤ i ∧ i ≤ 10)) M M1) : ∀ a i : Nat, (a = 100 ∨ a = 77 ∧ i = 28) → M1.2.1 a i = M.2.1 a i := fun a i z => F_n F (show ¬ (a = 77 ∧ (i = 1 ∨ 4 ≤ i ∧ i ≤ 10)) by omega) rfl
theorem tg_246 {M M1 : mm_M} (F : FR (fun a i : Nat => a = 77 ∧ (14 ≤ i ∧ i ≤ 16 ∨ i = 25)) M M1) : ∀ a i : Nat, KQ_r a i → M1.2.1 a i = M.2.1 a i := fun a i z => F_n F (show ¬ (a = 77 ∧ (14 ≤ i ∧ i ≤ 16 ∨ i = 25)) by omega) rfl
theorem tg_247 {M M1 : mm_M} (F : FR (fun a i : Nat => a = 77 ∧ (i = 1 ∨ 4 ≤ i ∧ i ≤ 10)) M M1) : ∀ a i : Nat, KQ_r a i → M1.2.1 a i = M.2.1 a i := fun a i z => F_n F (show ¬ (a = 77 ∧ (i = 1 ∨ 4 ≤ i ∧ i ≤ 10)) by omega) rfl
theorem tg_248 : ∀ a i j : Nat, (81 ≤ a ∧ a ≤ 84) → ¬ (a = 100 ∧ i = j) := fun a i j z => by omega
theorem tg_249 : ∀ a i : Nat, (81 ≤ a ∧ a ≤ 84) → ¬ (a = 77 ∧ i = 41) := fun a i z => by omega
theorem tg_250 : ∀ a i : Nat, (81 ≤ a ∧ a ≤ 84) → ¬ (a = 77 ∧ i = 57) := fun a i z => by omega
theorem tg_251 : ∀ a i : Nat, (81 ≤ a ∧ a ≤ 84) → ¬ (a = 77 ∧ i = 58) := fun a i z => by omega
theorem tg_252 : ∀ a i : Nat, (81 ≤ a ∧ a ≤ 84) → ¬ (a = 77 ∧ i = 29) := fun a i z => by omega
theorem tg_253 : ∀ a i : Nat, (81 ≤ a ∧ a ≤ 84) → ¬ (a = 77 ∧ i = 28) := fun a i z => by omega
theorem tg_254 : ∀ a i j : Nat, (81 ≤ a ∧ a ≤ 84) → ¬ (a = 86 ∧ i = j) := fun a i j z => by omega
theorem tg_255 : ∀ a i j : Nat, (81 ≤ a ∧ a ≤ 84) → ¬ (a = 85 ∧ i = j) := fun a i j z => by omega
theorem tg_256 : ∀ a i : Nat, (81 ≤ a ∧ a ≤ 84) → ¬ (a = 77 ∧ i = 13) := fun a i z => by omega
theorem tg_257 : ∀ a i : Nat, (81 ≤ a ∧ a ≤ 84) → ¬ (a = 77 ∧ i = 12) := fun a i z => by omega
theorem tg_258 : ∀ a i : Nat, (81 ≤ a ∧ a ≤ 84) → ¬ (a = 77 ∧ i = 11) := fun a i z => by omega
theorem tg_259 : ∀ a i : Nat, (a = 100 ∨ a = 77 ∧ i = 28) → ¬ (a = 77 ∧ i = 2) := fun a i z => by omega
set_option maxRecDepth 4000 in
set_option maxHeartbeats 0 in
theorem T_165_0 {X : mm_X} {d : Nat} {M : mm_M} {Q : Option Value → mm_M → Prop} (hX : g_X X) (hd : 0 ≤ d) (q1 : FA M) (q2 : WR M) (h : ∀ (M1 : mm_M), g_G M1 → FR md_ke M M1 → ((M1.2.1 77 28).toInt = 0) → ((M1.2.1 77 29).toInt = 0) → ((M1.2.1 77 58).toInt = 0) → ((M1.2.1 77 57).toInt = 0) → FA M1 → WC M1 → PS M1 → Q (none) M1) : ∀ nn9 : Nat, (∀ (N : mm_M) (x1 : Int32), g_G N → FR md_ke M N → (0 ≤ x1.toInt) → (x1.toInt ≤ 6) → (∀ j : Nat, j < (x1.toInt).toNat → N.2.1 100 j = 0) → (FA N) → (WC N) → ((N.2.1 77 28).toInt = 0) → ((N.2.1 77 29).toInt = 0) → ((N.2.1 77 58).toInt = 0) → ((N.2.1 77 57).toInt = 0) → 6 - x1.toInt < (nn9 : Int) → mm_T X d 164 199 [.ref 77, .int x1] [] N Q) := by
  intro nn9
  induction nn9 with
  | zero =>
    intro N x1 hG F0 g1 g2 g3 g4 g5 g6 g7 g8 g9 hm
    have b_1 := g_b hG (a := 77) (i := 28) (lo := 0) (hi := 30) rfl rfl
    have b_2 := g_b hG (a := 77) (i := 29) (lo := 0) (hi := 150) rfl rfl
    have b_3 := g_b hG (a := 77) (i := 58) (lo := 0) (hi := 40) rfl rfl
    have b_4 := g_b hG (a := 77) (i := 57) (lo := 0) (hi := 1) rfl rfl
    exfalso; omega
  | succ nn9 ih =>
    intro N x1 hG F0 g1 g2 g3 g4 g5 g6 g7 g8 g9 hm
    have b_5 := g_b hG (a := 77) (i := 28) (lo := 0) (hi := 30) rfl rfl
    have b_6 := g_b hG (a := 77) (i := 29) (lo := 0) (hi := 150) rfl rfl
    have b_7 := g_b hG (a := 77) (i := 58) (lo := 0) (hi := 40) rfl rfl
    have b_8 := g_b hG (a := 77) (i := 57) (lo := 0) (hi := 1) rfl rfl
    refine to_in (pc := 199) rw_165_199 rfl (to_c (pc := 200) rw_165_200 (x := (6 : Int32)) rfl rfl (b_cge (pc := 202) rw_165_202 (A := x1.toInt) (B := 6) rfl rfl (fun h9 => ?_) (fun h9 => ?_)))
    · refine to_rv (pc := 218) rw_165_218 ?_
      have j_10 := PS_0 (fun j z => g3 j (by omega)) (by omega)
      exact h N hG F0 (by omega) (by omega) (by omega) (by omega) g4 g5 j_10
    · refine to_an (pc := 205) rw_165_205 rfl (s_gR (pc := 206) rw_165_206 hG rfl (v := 100) rfl (to_in (pc := 209) rw_165_209 rfl (to_c (pc := 210) rw_165_210 (x := (0 : Int32)) rfl rfl (s_ias (pc := 211) rw_165_211 hG rfl (n := 6) rfl (A := x1.toInt) rfl (by omega) (by omega) (fun M12 W11 => ?_)))))
      have hG13 := g_w hG W11 (A := 0) rfl (lo := 0) (hi := 30) rfl rfl (by omega) (by decide)
      have F14 := FR.w F0 W11 (show 100 = 77 ∧ (11 ≤ (x1.toInt).toNat ∧ (x1.toInt).toNat ≤ 13 ∨ (x1.toInt).toNat = 28 ∨ (x1.toInt).toNat = 29 ∨ (x1.toInt).toNat = 41 ∨ (x1.toInt).toNat = 57 ∨ (x1.toInt).toNat = 58) ∨ 80 ≤ 100 ∧ 100 ≤ 87 ∨ 100 = 100 by omega)
      refine s_inc (pc := 212) rw_165_212 (ls2 := fun v => [.ref 77, .int v]) rfl rfl (fun _ => rfl) (A := x1.toInt) (B := 1) rfl rfl (by omega) (fun v15 e16 => to_go (pc := 215) rw_165_215 ?_)
      have j_17 : ∀ j : Nat, j < (v15.toInt).toNat → M12.2.1 100 j = 0 := by
        rw [show (v15.toInt).toNat = (x1.toInt).toNat + 1 by omega]
        exact ZR_s (M1 := M12) g3 (fun i z => (W_n W11 (by omega) rfl)) (W_e W11)
      have j_18 := (FA_f (fun a i z => W_n W11 (tg_248 a i _ z) rfl) g4)
      have j_19 := (WC_f (fun a i z => W_n W11 (by /-r100-/ omega) rfl) g5)
      have c_20 : M12.2.1 77 28 = (N.2.1 77 28) := (W_n W11 (fun z => absurd z.1 (by decide)) rfl)
      have t_21 : (M12.2.1 77 28).toInt = (N.2.1 77 28).toInt := congrArg Int32.toInt c_20
      have c_22 : M12.2.1 77 29 = (N.2.1 77 29) := (W_n W11 (fun z => absurd z.1 (by decide)) rfl)
      have t_23 : (M12.2.1 77 29).toInt = (N.2.1 77 29).toInt := congrArg Int32.toInt c_22
      have c_24 : M12.2.1 77 58 = (N.2.1 77 58) := (W_n W11 (fun z => absurd z.1 (by decide)) rfl)
      have t_25 : (M12.2.1 77 58).toInt = (N.2.1 77 58).toInt := congrArg Int32.toInt c_24
      have c_26 : M12.2.1 77 57 = (N.2.1 77 57) := (W_n W11 (fun z => absurd z.1 (by decide)) rfl)
      have t_27 : (M12.2.1 77 57).toInt = (N.2.1 77 57).toInt := congrArg Int32.toInt c_26
      exact ih M12 v15 hG13 F14 (by omega) (by omega) j_17 j_18 j_19 (by omega) (by omega) (by omega) (by omega) (by omega)
set_option maxRecDepth 4000 in
set_option maxHeartbeats 0 in
theorem T_165_1 {X : mm_X} {d : Nat} {M : mm_M} {Q : Option Value → mm_M → Prop} (hX : g_X X) (hd : 0 ≤ d) (q1 : FA M) (q2 : WR M) (h : ∀ (M1 : mm_M), g_G M1 → FR md_ke M M1 → ((M1.2.1 77 28).toInt = 0) → ((M1.2.1 77 29).toInt = 0) → ((M1.2.1 77 58).toInt = 0) → ((M1.2.1 77 57).toInt = 0) → FA M1 → WC M1 → PS M1 → Q (none) M1) : ∀ nn9 : Nat, (∀ (N : mm_M) (x1 : Int32), g_G N → FR md_ke M N → (0 ≤ x1.toInt) → (x1.toInt ≤ 12) → ((N.2.1 77 13).toInt = (N.2.1 77 16).toInt) → (∀ j : Nat, j < 8 → N.2.1 81 j = N.2.1 81 (8 + j)) → (∀ j : Nat, j < (x1.toInt).toNat → N.2.1 86 j = N.2.1 86 (12 + j)) → (FA N) → (WR N) → 12 - x1.toInt < (nn9 : Int) → mm_T X d 164 115 [.ref 77, .int x1] [] N Q) := by
  intro nn9
  induction nn9 with
  | zero =>
    intro N x1 hG F0 g1 g2 g3 g4 g5 g6 g7 hm
    have b_28 := g_b hG (a := 77) (i := 13) (lo := 0) (hi := 12) rfl rfl
    have b_29 := g_b hG (a := 77) (i := 16) (lo := 0) (hi := 12) rfl rfl
    exfalso; omega
  | succ nn9 ih =>
    intro N x1 hG F0 g1 g2 g3 g4 g5 g6 g7 hm
    have b_30 := g_b hG (a := 77) (i := 13) (lo := 0) (hi := 12) rfl rfl
    have b_31 := g_b hG (a := 77) (i := 16) (lo := 0) (hi := 12) rfl rfl
    refine to_in (pc := 115) rw_165_115 rfl (to_c (pc := 116) rw_165_116 (x := (12 : Int32)) rfl rfl (b_cge (pc := 118) rw_165_118 (A := x1.toInt) (B := 12) rfl rfl (fun h32 => ?_) (fun h32 => ?_)))
    · refine to_an (pc := 172) rw_165_172 rfl (to_c (pc := 173) rw_165_173 (x := (0 : Int32)) rfl rfl (s_pI (pc := 174) rw_165_174 hG rfl (fun M34 W33 => ?_)))
      have hG35 := g_w hG W33 (A := 0) rfl (lo := 0) (hi := 30) rfl rfl (by omega) (by decide)
      have F36 := FR.w F0 W33 (show 77 = 77 ∧ (11 ≤ 28 ∧ 28 ≤ 13 ∨ 28 = 28 ∨ 28 = 29 ∨ 28 = 41 ∨ 28 = 57 ∨ 28 = 58) ∨ 80 ≤ 77 ∧ 77 ≤ 87 ∨ 77 = 100 by decide)
      refine to_an (pc := 177) rw_165_177 rfl (to_c (pc := 178) rw_165_178 (x := (0 : Int32)) rfl rfl (s_pI (pc := 179) rw_165_179 hG35 rfl (fun M38 W37 => ?_)))
      have hG39 := g_w hG35 W37 (A := 0) rfl (lo := 0) (hi := 150) rfl rfl (by omega) (by decide)
      have F40 := FR.w F36 W37 (show 77 = 77 ∧ (11 ≤ 29 ∧ 29 ≤ 13 ∨ 29 = 28 ∨ 29 = 29 ∨ 29 = 41 ∨ 29 = 57 ∨ 29 = 58) ∨ 80 ≤ 77 ∧ 77 ≤ 87 ∨ 77 = 100 by decide)
      refine to_an (pc := 182) rw_165_182 rfl (to_c (pc := 183) rw_165_183 (x := (0 : Int32)) rfl rfl (s_pI (pc := 184) rw_165_184 hG39 rfl (fun M42 W41 => ?_)))
      have hG43 := g_w hG39 W41 (A := 0) rfl (lo := 0) (hi := 40) rfl rfl (by omega) (by decide)
      have F44 := FR.w F40 W41 (show 77 = 77 ∧ (11 ≤ 58 ∧ 58 ≤ 13 ∨ 58 = 28 ∨ 58 = 29 ∨ 58 = 41 ∨ 58 = 57 ∨ 58 = 58) ∨ 80 ≤ 77 ∧ 77 ≤ 87 ∨ 77 = 100 by decide)
      refine to_an (pc := 187) rw_165_187 rfl (to_c (pc := 188) rw_165_188 (x := (0 : Int32)) rfl rfl (s_pZ (pc := 189) rw_165_189 hG43 rfl (A := 0) rfl (by omega) (fun M46 W45 => ?_)))
      have hG47 := g_w hG43 W45 (A := 0) rfl (lo := 0) (hi := 1) rfl rfl (by omega) (by decide)
      have F48 := FR.w F44 W45 (show 77 = 77 ∧ (11 ≤ 57 ∧ 57 ≤ 13 ∨ 57 = 28 ∨ 57 = 29 ∨ 57 = 41 ∨ 57 = 57 ∨ 57 = 58) ∨ 80 ≤ 77 ∧ 77 ≤ 87 ∨ 77 = 100 by decide)
      refine to_an (pc := 192) rw_165_192 rfl (to_c (pc := 193) rw_165_193 (x := (0 : Int32)) rfl rfl (s_pI (pc := 194) rw_165_194 hG47 rfl (fun M50 W49 => ?_)))
      have hG51 := g_wf hG47 W49 rfl rfl (by decide)
      have F52 := FR.w F48 W49 (show 77 = 77 ∧ (11 ≤ 41 ∧ 41 ≤ 13 ∨ 41 = 28 ∨ 41 = 29 ∨ 41 = 41 ∨ 41 = 57 ∨ 41 = 58) ∨ 80 ≤ 77 ∧ 77 ≤ 87 ∨ 77 = 100 by decide)
      refine to_c (pc := 197) rw_165_197 (x := (0 : Int32)) rfl rfl (to_isn (pc := 198) rw_165_198 (ls2 := [.ref 77, .int (0 : Int32)]) rfl rfl ?_)
      have k_53 : (0 : Int32).toInt = 0 := rfl
      have j_54 := CP_f (M1 := M50) g4 (fun i => (W_n W49 (by omega) (W_n W45 (by omega) (W_n W41 (by omega) (W_n W37 (by omega) (W_n W33 (by omega) rfl))))))
      have c_55 : M50.2.1 77 13 = (N.2.1 77 13) := (W_n W49 (by decide) (W_n W45 (by decide) (W_n W41 (by decide) (W_n W37 (by decide) (W_n W33 (by decide) rfl)))))
      have t_56 : (M50.2.1 77 13).toInt = (N.2.1 77 13).toInt := congrArg Int32.toInt c_55
      have c_57 : M50.2.1 77 16 = (N.2.1 77 16) := (W_n W49 (by decide) (W_n W45 (by decide) (W_n W41 (by decide) (W_n W37 (by decide) (W_n W33 (by decide) rfl)))))
      have t_58 : (M50.2.1 77 16).toInt = (N.2.1 77 16).toInt := congrArg Int32.toInt c_57
      have c_59 : M50.2.1 77 15 = (N.2.1 77 15) := (W_n W49 (by decide) (W_n W45 (by decide) (W_n W41 (by decide) (W_n W37 (by decide) (W_n W33 (by decide) rfl)))))
      have b_60 := g_b hG (a := 77) (i := 15) (lo := 0) (hi := 8) rfl rfl
      have t_61 : (M50.2.1 77 15).toInt = (N.2.1 77 15).toInt := congrArg Int32.toInt c_59
      have j_63 := (WR_f (fun a i z => W_n W49 (by /-r77,41-/ omega) rfl) (WR_f (fun a i z => W_n W45 (by /-r77,57-/ omega) rfl) (WR_f (fun a i z => W_n W41 (by /-r77,58-/ omega) rfl) (WR_f (fun a i z => W_n W37 (by /-r77,29-/ omega) rfl) (WR_f (fun a i z => W_n W33 (by /-r77,28-/ omega) rfl) g7)))))
      have j_62 := WC_k j_63 (by omega) (by omega) j_54 (fun j z => CP_f (M1 := M50) g5 (fun i => (W_n W49 (by omega) (W_n W45 (by omega) (W_n W41 (by omega) (W_n W37 (by omega) (W_n W33 (by omega) rfl)))))) j (by omega))
      have j_64 := (FA_f (fun a i z => W_n W49 (tg_249 a i z) rfl) (FA_f (fun a i z => W_n W45 (tg_250 a i z) rfl) (FA_f (fun a i z => W_n W41 (tg_251 a i z) rfl) (FA_f (fun a i z => W_n W37 (tg_252 a i z) rfl) (FA_f (fun a i z => W_n W33 (tg_253 a i z) rfl) g6)))))
      have c_65 : M50.2.1 77 28 = (0 : Int32) := (W_n W49 (by decide) (W_n W45 (by decide) (W_n W41 (by decide) (W_n W37 (by decide) (W_e W33)))))
      have t_66 : (M50.2.1 77 28).toInt = (0 : Int32).toInt := congrArg Int32.toInt c_65
      have c_67 : M50.2.1 77 29 = (0 : Int32) := (W_n W49 (by decide) (W_n W45 (by decide) (W_n W41 (by decide) (W_e W37))))
      have t_68 : (M50.2.1 77 29).toInt = (0 : Int32).toInt := congrArg Int32.toInt c_67
      have c_69 : M50.2.1 77 58 = (0 : Int32) := (W_n W49 (by decide) (W_n W45 (by decide) (W_e W41)))
      have t_70 : (M50.2.1 77 58).toInt = (0 : Int32).toInt := congrArg Int32.toInt c_69
      have c_71 : M50.2.1 77 57 = (0 : Int32) := (W_n W49 (by decide) (W_e W45))
      have t_72 : (M50.2.1 77 57).toInt = (0 : Int32).toInt := congrArg Int32.toInt c_71
      exact (T_165_0 hX hd q1 q2 h ((6 - (0 : Int32).toInt).toNat + 1)) M50 (0 : Int32) hG51 F52 (by omega) (by omega) (fun j z => absurd z (by omega)) j_64 j_62 (by omega) (by omega) (by omega) (by omega) (by omega)
    · refine to_an (pc := 121) rw_165_121 rfl (s_gR (pc := 122) rw_165_122 hG rfl (v := 85) rfl (to_in (pc := 125) rw_165_125 rfl (to_an (pc := 126) rw_165_126 rfl (s_gR (pc := 127) rw_165_127 hG rfl (v := 85) rfl (to_c (pc := 130) rw_165_130 (x := (12 : Int32)) rfl rfl (to_in (pc := 132) rw_165_132 rfl (s_add (pc := 133) rw_165_133 (A := 12) (B := x1.toInt) rfl rfl (by omega) (fun v73 e74 => s_ial (pc := 134) rw_165_134 hG rfl (n := 24) rfl rfl (A := v73.toInt) rfl (by omega) (by omega) (lo := -2147483648) (hi := 2147483647) rfl rfl (fun v75 w_76 _ _ => s_ias (pc := 135) rw_165_135 hG rfl (n := 24) rfl (A := x1.toInt) rfl (by omega) (by omega) (fun M78 W77 => ?_))))))))))
      have hG79 := g_wf hG W77 rfl rfl (by decide)
      have F80 := FR.w F0 W77 (show 85 = 77 ∧ (11 ≤ (x1.toInt).toNat ∧ (x1.toInt).toNat ≤ 13 ∨ (x1.toInt).toNat = 28 ∨ (x1.toInt).toNat = 29 ∨ (x1.toInt).toNat = 41 ∨ (x1.toInt).toNat = 57 ∨ (x1.toInt).toNat = 58) ∨ 80 ≤ 85 ∧ 85 ≤ 87 ∨ 85 = 100 by omega)
      refine to_an (pc := 136) rw_165_136 rfl (s_gR (pc := 137) rw_165_137 hG79 rfl (v := 86) rfl (to_in (pc := 140) rw_165_140 rfl (to_an (pc := 141) rw_165_141 rfl (s_gR (pc := 142) rw_165_142 hG79 rfl (v := 86) rfl (to_c (pc := 145) rw_165_145 (x := (12 : Int32)) rfl rfl (to_in (pc := 147) rw_165_147 rfl (s_add (pc := 148) rw_165_148 (A := 12) (B := x1.toInt) rfl rfl (by omega) (fun v81 e82 => s_ial (pc := 149) rw_165_149 hG79 rfl (n := 24) rfl rfl (A := v81.toInt) rfl (by omega) (by omega) (lo := 0) (hi := 7) rfl rfl (fun v83 w_84 _ _ => s_ias (pc := 150) rw_165_150 hG79 rfl (n := 24) rfl (A := x1.toInt) rfl (by omega) (by omega) (fun M86 W85 => ?_))))))))))
      have hG87 := g_w hG79 W85 (A := v83.toInt) rfl (lo := 0) (hi := 7) rfl rfl (by omega) (by decide)
      have F88 := FR.w F80 W85 (show 86 = 77 ∧ (11 ≤ (x1.toInt).toNat ∧ (x1.toInt).toNat ≤ 13 ∨ (x1.toInt).toNat = 28 ∨ (x1.toInt).toNat = 29 ∨ (x1.toInt).toNat = 41 ∨ (x1.toInt).toNat = 57 ∨ (x1.toInt).toNat = 58) ∨ 80 ≤ 86 ∧ 86 ≤ 87 ∨ 86 = 100 by omega)
      refine to_an (pc := 151) rw_165_151 rfl (s_gR (pc := 152) rw_165_152 hG87 rfl (v := 87) rfl (to_in (pc := 155) rw_165_155 rfl (to_an (pc := 156) rw_165_156 rfl (s_gR (pc := 157) rw_165_157 hG87 rfl (v := 87) rfl (to_c (pc := 160) rw_165_160 (x := (12 : Int32)) rfl rfl (to_in (pc := 162) rw_165_162 rfl (s_add (pc := 163) rw_165_163 (A := 12) (B := x1.toInt) rfl rfl (by omega) (fun v89 e90 => s_lal (pc := 164) rw_165_164 hG87 rfl (n := 24) rfl (A := v89.toInt) rfl (by omega) (by omega) (fun l91 => s_las (pc := 165) rw_165_165 hG87 rfl (n := 24) rfl (A := x1.toInt) rfl (by omega) (by omega) (fun M93 W92 => ?_))))))))))
      have hG94 := g_wl hG87 W92
      have F95 := FR.wl F88 W92 (show 87 = 77 ∧ (11 ≤ (x1.toInt).toNat ∧ (x1.toInt).toNat ≤ 13 ∨ (x1.toInt).toNat = 28 ∨ (x1.toInt).toNat = 29 ∨ (x1.toInt).toNat = 41 ∨ (x1.toInt).toNat = 57 ∨ (x1.toInt).toNat = 58) ∨ 80 ≤ 87 ∧ 87 ≤ 87 ∨ 87 = 100 by omega)
      refine s_inc (pc := 166) rw_165_166 (ls2 := fun v => [.ref 77, .int v]) rfl rfl (fun _ => rfl) (A := x1.toInt) (B := 1) rfl rfl (by omega) (fun v96 e97 => to_go (pc := 169) rw_165_169 ?_)
      have c_98 : M93.2.1 77 13 = (N.2.1 77 13) := (W_l W92 (W_n W85 (fun z => absurd z.1 (by decide)) (W_n W77 (fun z => absurd z.1 (by decide)) rfl)))
      have t_99 : (M93.2.1 77 13).toInt = (N.2.1 77 13).toInt := congrArg Int32.toInt c_98
      have c_100 : M93.2.1 77 16 = (N.2.1 77 16) := (W_l W92 (W_n W85 (fun z => absurd z.1 (by decide)) (W_n W77 (fun z => absurd z.1 (by decide)) rfl)))
      have t_101 : (M93.2.1 77 16).toInt = (N.2.1 77 16).toInt := congrArg Int32.toInt c_100
      have j_102 := CP_f (M1 := M93) g4 (fun i => (W_l W92 (W_n W85 (by omega) (W_n W77 (by omega) rfl))))
      have j_103 : ∀ j : Nat, j < (v96.toInt).toNat → M93.2.1 86 j = M93.2.1 86 (12 + j) := by
        rw [show (v96.toInt).toNat = (x1.toInt).toNat + 1 by omega]
        exact CP_s (M1 := M93) g5 (by omega) (fun i z => (W_l W92 (W_n W85 (by omega) (W_n W77 (by omega) rfl)))) (W_l W92 (W_e W85)) (by rw [show 12 + (x1.toInt).toNat = (v81.toInt).toNat by omega]; exact (Eq.trans (Eq.symm (Eq.trans (W_n W77 (by omega) rfl) rfl)) w_84))
      have j_104 := (FA_f (fun a i z => W_l W92 rfl) (FA_f (fun a i z => W_n W85 (tg_254 a i _ z) rfl) (FA_f (fun a i z => W_n W77 (tg_255 a i _ z) rfl) g6)))
      have j_105 := (WR_f (fun a i z => W_l W92 rfl) (WR_f (fun a i z => W_n W85 (by /-r86-/ omega) rfl) (WR_f (fun a i z => W_n W77 (by /-r85-/ omega) rfl) g7)))
      exact ih M93 v96 hG94 F95 (by omega) (by omega) (by omega) j_102 j_103 j_104 j_105 (by omega)
set_option maxRecDepth 4000 in
set_option maxHeartbeats 0 in
theorem T_165_2 {X : mm_X} {d : Nat} {M : mm_M} {Q : Option Value → mm_M → Prop} (hX : g_X X) (hd : 0 ≤ d) (q1 : FA M) (q2 : WR M) (h : ∀ (M1 : mm_M), g_G M1 → FR md_ke M M1 → ((M1.2.1 77 28).toInt = 0) → ((M1.2.1 77 29).toInt = 0) → ((M1.2.1 77 58).toInt = 0) → ((M1.2.1 77 57).toInt = 0) → FA M1 → WC M1 → PS M1 → Q (none) M1) : ∀ nn9 : Nat, (∀ (N : mm_M) (x1 : Int32), g_G N → FR md_ke M N → (0 ≤ x1.toInt) → (x1.toInt ≤ 8) → ((N.2.1 77 13).toInt = (N.2.1 77 16).toInt) → (∀ j : Nat, j < (x1.toInt).toNat → N.2.1 81 j = N.2.1 81 (8 + j)) → (FA N) → (WR N) → 8 - x1.toInt < (nn9 : Int) → mm_T X d 164 26 [.ref 77, .int x1] [] N Q) := by
  intro nn9
  induction nn9 with
  | zero =>
    intro N x1 hG F0 g1 g2 g3 g4 g5 g6 hm
    have b_106 := g_b hG (a := 77) (i := 13) (lo := 0) (hi := 12) rfl rfl
    have b_107 := g_b hG (a := 77) (i := 16) (lo := 0) (hi := 12) rfl rfl
    exfalso; omega
  | succ nn9 ih =>
    intro N x1 hG F0 g1 g2 g3 g4 g5 g6 hm
    have b_108 := g_b hG (a := 77) (i := 13) (lo := 0) (hi := 12) rfl rfl
    have b_109 := g_b hG (a := 77) (i := 16) (lo := 0) (hi := 12) rfl rfl
    refine to_in (pc := 26) rw_165_26 rfl (to_c (pc := 27) rw_165_27 (x := (8 : Int32)) rfl rfl (b_cge (pc := 29) rw_165_29 (A := x1.toInt) (B := 8) rfl rfl (fun h110 => ?_) (fun h110 => ?_)))
    · refine to_c (pc := 113) rw_165_113 (x := (0 : Int32)) rfl rfl (to_isn (pc := 114) rw_165_114 (ls2 := [.ref 77, .int (0 : Int32)]) rfl rfl ?_)
      have k_111 : (0 : Int32).toInt = 0 := rfl
      have j_112 : ∀ j : Nat, j < 8 → N.2.1 81 j = N.2.1 81 (8 + j) := fun j z => CP_f (M1 := N) g4 (fun i => rfl) j (by omega)
      exact (T_165_1 hX hd q1 q2 h ((12 - (0 : Int32).toInt).toNat + 1)) N (0 : Int32) hG F0 (by omega) (by omega) (by omega) j_112 (fun j z => absurd z (by omega)) g5 g6 (by omega)
    · refine to_an (pc := 32) rw_165_32 rfl (s_gR (pc := 33) rw_165_33 hG rfl (v := 80) rfl (to_in (pc := 36) rw_165_36 rfl (to_an (pc := 37) rw_165_37 rfl (s_gR (pc := 38) rw_165_38 hG rfl (v := 80) rfl (to_c (pc := 41) rw_165_41 (x := (8 : Int32)) rfl rfl (to_in (pc := 43) rw_165_43 rfl (s_add (pc := 44) rw_165_44 (A := 8) (B := x1.toInt) rfl rfl (by omega) (fun v114 e115 => s_ial (pc := 45) rw_165_45 hG rfl (n := 16) rfl rfl (A := v114.toInt) rfl (by omega) (by omega) (lo := -2147483648) (hi := 2147483647) rfl rfl (fun v116 w_117 _ _ => s_ias (pc := 46) rw_165_46 hG rfl (n := 16) rfl (A := x1.toInt) rfl (by omega) (by omega) (fun M119 W118 => ?_))))))))))
      have hG120 := g_wf hG W118 rfl rfl (by decide)
      have F121 := FR.w F0 W118 (show 80 = 77 ∧ (11 ≤ (x1.toInt).toNat ∧ (x1.toInt).toNat ≤ 13 ∨ (x1.toInt).toNat = 28 ∨ (x1.toInt).toNat = 29 ∨ (x1.toInt).toNat = 41 ∨ (x1.toInt).toNat = 57 ∨ (x1.toInt).toNat = 58) ∨ 80 ≤ 80 ∧ 80 ≤ 87 ∨ 80 = 100 by omega)
      have j_122 := (FA_f (fun a i z => W_n W118 (tg_229 a i _ z) rfl) g5)
      refine to_an (pc := 47) rw_165_47 rfl (s_gR (pc := 48) rw_165_48 hG120 rfl (v := 81) rfl (to_in (pc := 51) rw_165_51 rfl (to_an (pc := 52) rw_165_52 rfl (s_gR (pc := 53) rw_165_53 hG120 rfl (v := 81) rfl (to_c (pc := 56) rw_165_56 (x := (8 : Int32)) rfl rfl (to_in (pc := 58) rw_165_58 rfl (s_add (pc := 59) rw_165_59 (A := 8) (B := x1.toInt) rfl rfl (by omega) (fun v123 e124 => s_ial (pc := 60) rw_165_60 hG120 rfl (n := 16) rfl rfl (A := v123.toInt) rfl (by omega) (by omega) (lo := 0) (hi := 3) rfl rfl (fun v125 w_126 _ _ => s_ias (pc := 61) rw_165_61 hG120 rfl (n := 16) rfl (A := x1.toInt) rfl (by omega) (by omega) (fun M128 W127 => ?_))))))))))
      have hG129 := g_w hG120 W127 (A := v125.toInt) rfl (lo := 0) (hi := 3) rfl rfl (by omega) (by decide)
      have F130 := FR.w F121 W127 (show 81 = 77 ∧ (11 ≤ (x1.toInt).toNat ∧ (x1.toInt).toNat ≤ 13 ∨ (x1.toInt).toNat = 28 ∨ (x1.toInt).toNat = 29 ∨ (x1.toInt).toNat = 41 ∨ (x1.toInt).toNat = 57 ∨ (x1.toInt).toNat = 58) ∨ 80 ≤ 81 ∧ 81 ≤ 87 ∨ 81 = 100 by omega)
      refine to_an (pc := 62) rw_165_62 rfl (s_gR (pc := 63) rw_165_63 hG129 rfl (v := 82) rfl (to_in (pc := 66) rw_165_66 rfl (to_an (pc := 67) rw_165_67 rfl (s_gR (pc := 68) rw_165_68 hG129 rfl (v := 82) rfl (to_c (pc := 71) rw_165_71 (x := (8 : Int32)) rfl rfl (to_in (pc := 73) rw_165_73 rfl (s_add (pc := 74) rw_165_74 (A := 8) (B := x1.toInt) rfl rfl (by omega) (fun v131 e132 => s_ial (pc := 75) rw_165_75 hG129 rfl (n := 16) rfl rfl (A := v131.toInt) rfl (by omega) (by omega) (lo := 0) (hi := 59) rfl rfl (fun v133 w_134 _ _ => s_ias (pc := 76) rw_165_76 hG129 rfl (n := 16) rfl (A := x1.toInt) rfl (by omega) (by omega) (fun M136 W135 => ?_))))))))))
      have hG137 := g_w hG129 W135 (A := v133.toInt) rfl (lo := 0) (hi := 59) rfl rfl (by omega) (by decide)
      have F138 := FR.w F130 W135 (show 82 = 77 ∧ (11 ≤ (x1.toInt).toNat ∧ (x1.toInt).toNat ≤ 13 ∨ (x1.toInt).toNat = 28 ∨ (x1.toInt).toNat = 29 ∨ (x1.toInt).toNat = 41 ∨ (x1.toInt).toNat = 57 ∨ (x1.toInt).toNat = 58) ∨ 80 ≤ 82 ∧ 82 ≤ 87 ∨ 82 = 100 by omega)
      refine to_an (pc := 77) rw_165_77 rfl (s_gR (pc := 78) rw_165_78 hG137 rfl (v := 83) rfl (to_in (pc := 81) rw_165_81 rfl (to_an (pc := 82) rw_165_82 rfl (s_gR (pc := 83) rw_165_83 hG137 rfl (v := 83) rfl (to_c (pc := 86) rw_165_86 (x := (8 : Int32)) rfl rfl (to_in (pc := 88) rw_165_88 rfl (s_add (pc := 89) rw_165_89 (A := 8) (B := x1.toInt) rfl rfl (by omega) (fun v139 e140 => s_ial (pc := 90) rw_165_90 hG137 rfl (n := 16) rfl rfl (A := v139.toInt) rfl (by omega) (by omega) (lo := 0) (hi := 63) rfl rfl (fun v141 w_142 _ _ => s_ias (pc := 91) rw_165_91 hG137 rfl (n := 16) rfl (A := x1.toInt) rfl (by omega) (by omega) (fun M144 W143 => ?_))))))))))
      have hG145 := g_w hG137 W143 (A := v141.toInt) rfl (lo := 0) (hi := 63) rfl rfl (by omega) (by decide)
      have F146 := FR.w F138 W143 (show 83 = 77 ∧ (11 ≤ (x1.toInt).toNat ∧ (x1.toInt).toNat ≤ 13 ∨ (x1.toInt).toNat = 28 ∨ (x1.toInt).toNat = 29 ∨ (x1.toInt).toNat = 41 ∨ (x1.toInt).toNat = 57 ∨ (x1.toInt).toNat = 58) ∨ 80 ≤ 83 ∧ 83 ≤ 87 ∨ 83 = 100 by omega)
      refine to_an (pc := 92) rw_165_92 rfl (s_gR (pc := 93) rw_165_93 hG145 rfl (v := 84) rfl (to_in (pc := 96) rw_165_96 rfl (to_an (pc := 97) rw_165_97 rfl (s_gR (pc := 98) rw_165_98 hG145 rfl (v := 84) rfl (to_c (pc := 101) rw_165_101 (x := (8 : Int32)) rfl rfl (to_in (pc := 103) rw_165_103 rfl (s_add (pc := 104) rw_165_104 (A := 8) (B := x1.toInt) rfl rfl (by omega) (fun v147 e148 => s_ial (pc := 105) rw_165_105 hG145 rfl (n := 16) rfl rfl (A := v147.toInt) rfl (by omega) (by omega) (lo := 0) (hi := 24) rfl rfl (fun v149 w_150 _ _ => s_ias (pc := 106) rw_165_106 hG145 rfl (n := 16) rfl (A := x1.toInt) rfl (by omega) (by omega) (fun M152 W151 => ?_))))))))))
      have hG153 := g_w hG145 W151 (A := v149.toInt) rfl (lo := 0) (hi := 24) rfl rfl (by omega) (by decide)
      have F154 := FR.w F146 W151 (show 84 = 77 ∧ (11 ≤ (x1.toInt).toNat ∧ (x1.toInt).toNat ≤ 13 ∨ (x1.toInt).toNat = 28 ∨ (x1.toInt).toNat = 29 ∨ (x1.toInt).toNat = 41 ∨ (x1.toInt).toNat = 57 ∨ (x1.toInt).toNat = 58) ∨ 80 ≤ 84 ∧ 84 ≤ 87 ∨ 84 = 100 by omega)
      have j_155 := FA_copy (m := (v123.toInt).toNat) j_122 ((Eq.trans (Eq.symm rfl) w_126)) (by rw [show (v123.toInt).toNat = (v131.toInt).toNat by omega]; exact (Eq.trans (Eq.symm (Eq.trans (W_n W127 (by omega) rfl) rfl)) w_134)) (by rw [show (v123.toInt).toNat = (v139.toInt).toNat by omega]; exact (Eq.trans (Eq.symm (Eq.trans (W_n W135 (by omega) rfl) (Eq.trans (W_n W127 (by omega) rfl) rfl))) w_142)) (by rw [show (v123.toInt).toNat = (v147.toInt).toNat by omega]; exact (Eq.trans (Eq.symm (Eq.trans (W_n W143 (by omega) rfl) (Eq.trans (W_n W135 (by omega) rfl) (Eq.trans (W_n W127 (by omega) rfl) rfl)))) w_150)) W127 W135 W143 W151
      refine s_inc (pc := 107) rw_165_107 (ls2 := fun v => [.ref 77, .int v]) rfl rfl (fun _ => rfl) (A := x1.toInt) (B := 1) rfl rfl (by omega) (fun v156 e157 => to_go (pc := 110) rw_165_110 ?_)
      have c_158 : M152.2.1 77 13 = (N.2.1 77 13) := (W_n W151 (fun z => absurd z.1 (by decide)) (W_n W143 (fun z => absurd z.1 (by decide)) (W_n W135 (fun z => absurd z.1 (by decide)) (W_n W127 (fun z => absurd z.1 (by decide)) (W_n W118 (fun z => absurd z.1 (by decide)) rfl)))))
      have t_159 : (M152.2.1 77 13).toInt = (N.2.1 77 13).toInt := congrArg Int32.toInt c_158
      have c_160 : M152.2.1 77 16 = (N.2.1 77 16) := (W_n W151 (fun z => absurd z.1 (by decide)) (W_n W143 (fun z => absurd z.1 (by decide)) (W_n W135 (fun z => absurd z.1 (by decide)) (W_n W127 (fun z => absurd z.1 (by decide)) (W_n W118 (fun z => absurd z.1 (by decide)) rfl)))))
      have t_161 : (M152.2.1 77 16).toInt = (N.2.1 77 16).toInt := congrArg Int32.toInt c_160
      have j_162 : ∀ j : Nat, j < (v156.toInt).toNat → M152.2.1 81 j = M152.2.1 81 (8 + j) := by
        rw [show (v156.toInt).toNat = (x1.toInt).toNat + 1 by omega]
        exact CP_s (M1 := M152) g4 (by omega) (fun i z => (W_n W151 (by omega) (W_n W143 (by omega) (W_n W135 (by omega) (W_n W127 (by omega) (W_n W118 (by omega) rfl)))))) (W_n W151 (by omega) (W_n W143 (by omega) (W_n W135 (by omega) (W_e W127)))) (by rw [show 8 + (x1.toInt).toNat = (v123.toInt).toNat by omega]; exact (Eq.trans (Eq.symm (Eq.trans (W_n W118 (by omega) rfl) rfl)) w_126))
      have j_163 := (WR_f (fun a i z => W_n W151 (by /-r84-/ omega) rfl) (WR_f (fun a i z => W_n W143 (by /-r83-/ omega) rfl) (WR_f (fun a i z => W_n W135 (by /-r82-/ omega) rfl) (WR_f (fun a i z => W_n W127 (by /-r81-/ omega) rfl) (WR_f (fun a i z => W_n W118 (by /-r80-/ omega) rfl) g6)))))
      exact ih M152 v156 hG153 F154 (by omega) (by omega) (by omega) j_162 j_155 j_163 (by omega)
set_option maxRecDepth 4000 in
set_option maxHeartbeats 0 in
theorem C_165 {X : mm_X} {d : Nat} {M : mm_M} {Q : Option Value → mm_M → Prop} (hX : g_X X) (hd : 0 ≤ d) (hG : g_G M) (q1 : FA M) (q2 : WR M) (h : ∀ (M1 : mm_M), g_G M1 → FR md_ke M M1 → ((M1.2.1 77 28).toInt = 0) → ((M1.2.1 77 29).toInt = 0) → ((M1.2.1 77 58).toInt = 0) → ((M1.2.1 77 57).toInt = 0) → FA M1 → WC M1 → PS M1 → Q (none) M1) : mm_T X d 164 0 [.ref 77, .null] [] M Q := by
  have F0 : FR md_ke M M := FR.rf
  refine to_an (pc := 0) rw_165_0 rfl (to_an (pc := 1) rw_165_1 rfl ?_)
  have b_164 := g_b hG (a := 77) (i := 14) (lo := 10) (hi := 60) rfl rfl
  refine tt_gI (pc := 2) rw_165_2 (g_o hG rfl) (v := (M.2.1 77 14)) rfl (s_pI (pc := 5) rw_165_5 hG rfl (fun M166 W165 => ?_))
  have hG167 := g_w hG W165 (A := (M.2.1 77 14).toInt) rfl (lo := 10) (hi := 60) rfl rfl (by omega) (by decide)
  have F168 := FR.w F0 W165 (show 77 = 77 ∧ (11 ≤ 11 ∧ 11 ≤ 13 ∨ 11 = 28 ∨ 11 = 29 ∨ 11 = 41 ∨ 11 = 57 ∨ 11 = 58) ∨ 80 ≤ 77 ∧ 77 ≤ 87 ∨ 77 = 100 by decide)
  refine to_an (pc := 8) rw_165_8 rfl (to_an (pc := 9) rw_165_9 rfl ?_)
  have c_169 : M166.2.1 77 15 = (M.2.1 77 15) := (W_n W165 (by decide) rfl)
  have b_170 := g_b hG (a := 77) (i := 15) (lo := 0) (hi := 8) rfl rfl
  refine tt_gI (pc := 10) rw_165_10 (g_o hG167 rfl) (v := (M.2.1 77 15)) c_169 (s_pI (pc := 13) rw_165_13 hG167 rfl (fun M172 W171 => ?_))
  have hG173 := g_w hG167 W171 (A := (M.2.1 77 15).toInt) rfl (lo := 0) (hi := 8) rfl rfl (by omega) (by decide)
  have F174 := FR.w F168 W171 (show 77 = 77 ∧ (11 ≤ 12 ∧ 12 ≤ 13 ∨ 12 = 28 ∨ 12 = 29 ∨ 12 = 41 ∨ 12 = 57 ∨ 12 = 58) ∨ 80 ≤ 77 ∧ 77 ≤ 87 ∨ 77 = 100 by decide)
  refine to_an (pc := 16) rw_165_16 rfl (to_an (pc := 17) rw_165_17 rfl ?_)
  have c_175 : M172.2.1 77 16 = (M.2.1 77 16) := (W_n W171 (by decide) (W_n W165 (by decide) rfl))
  have b_176 := g_b hG (a := 77) (i := 16) (lo := 0) (hi := 12) rfl rfl
  refine tt_gI (pc := 18) rw_165_18 (g_o hG173 rfl) (v := (M.2.1 77 16)) c_175 (s_pI (pc := 21) rw_165_21 hG173 rfl (fun M178 W177 => ?_))
  have hG179 := g_w hG173 W177 (A := (M.2.1 77 16).toInt) rfl (lo := 0) (hi := 12) rfl rfl (by omega) (by decide)
  have F180 := FR.w F174 W177 (show 77 = 77 ∧ (11 ≤ 13 ∧ 13 ≤ 13 ∨ 13 = 28 ∨ 13 = 29 ∨ 13 = 41 ∨ 13 = 57 ∨ 13 = 58) ∨ 80 ≤ 77 ∧ 77 ≤ 87 ∨ 77 = 100 by decide)
  refine to_c (pc := 24) rw_165_24 (x := (0 : Int32)) rfl rfl (to_isn (pc := 25) rw_165_25 (ls2 := [.ref 77, .int (0 : Int32)]) rfl rfl ?_)
  have k_181 : (0 : Int32).toInt = 0 := rfl
  have c_182 : M178.2.1 77 13 = (M.2.1 77 16) := (W_e W177)
  have t_183 : (M178.2.1 77 13).toInt = (M.2.1 77 16).toInt := congrArg Int32.toInt c_182
  have c_184 : M178.2.1 77 16 = (M.2.1 77 16) := (W_n W177 (by decide) c_175)
  have t_185 : (M178.2.1 77 16).toInt = (M.2.1 77 16).toInt := congrArg Int32.toInt c_184
  have j_187 := (FA_f (fun a i z => W_n W177 (tg_256 a i z) rfl) (FA_f (fun a i z => W_n W171 (tg_257 a i z) rfl) (FA_f (fun a i z => W_n W165 (tg_258 a i z) rfl) q1)))
  have j_188 := (WR_f (fun a i z => W_n W177 (by /-r77,13-/ omega) rfl) (WR_f (fun a i z => W_n W171 (by /-r77,12-/ omega) rfl) (WR_f (fun a i z => W_n W165 (by /-r77,11-/ omega) rfl) q2)))
  exact (T_165_2 hX hd q1 q2 h ((8 - (0 : Int32).toInt).toNat + 1)) M178 (0 : Int32) hG179 F180 (by omega) (by omega) (by omega) (fun j z => absurd z (by omega)) j_187 j_188 (by omega)
set_option maxRecDepth 4000 in
set_option maxHeartbeats 0 in
theorem T_173_0 {X : mm_X} {d : Nat} {M : mm_M} {Q : Option Value → mm_M → Prop} {n : Int32} (hX : g_X X) (hd : 5 ≤ d) (q1 : (M.2.1 77 7).toInt ≤ (M.2.1 77 6).toInt) (q2 : FA M) (q3 : WC M) (q4 : NJ M) (q5 : PS M) (q6 : KQ M) (h : ∀ (r : Int32) (M1 : mm_M), g_G M1 → FR md_P M M1 → ((M1.2.1 77 7).toInt ≤ (M1.2.1 77 6).toInt) → FA M1 → WC M1 → NJ M1 → PS M1 → KQ M1 → (n.toInt < 0 ∨ (M.2.1 77 1).toInt < n.toInt → (M1.2.1 77 1).toInt = (M.2.1 77 1).toInt) → (0 ≤ n.toInt ∧ n.toInt ≤ (M.2.1 77 1).toInt → (M1.2.1 77 1).toInt = 0) → Q (some (.int r)) M1) : ∀ nn9 : Nat, (∀ (N : mm_M) (u1 : Value) (x2 : Int32), g_G N → FR md_P M N → ((N.2.1 77 7).toInt ≤ (N.2.1 77 6).toInt) → (FA N) → (WC N) → (NJ N) → (PS N) → (KQ N) → (WR N) → ((N.2.1 77 1).toInt = 0) → (0 ≤ n.toInt) → (n.toInt ≤ (M.2.1 77 1).toInt) → 6 * (500 - (N.2.1 77 7).toInt) + (N.2.1 77 8).toInt < (nn9 : Int) → mm_T X d 172 22 [.ref 77, u1, .int x2] [] N Q) := by
  intro nn9
  induction nn9 with
  | zero =>
    intro N u1 x2 hG F0 g1 g2 g3 g4 g5 g6 g7 g8 g9 g10 hm
    have b_1 := g_b hG (a := 77) (i := 7) (lo := 0) (hi := 500) rfl rfl
    have b_2 := g_b hG (a := 77) (i := 8) (lo := 0) (hi := 5) rfl rfl
    have b_3 := g_b hG (a := 77) (i := 6) (lo := 0) (hi := 500) rfl rfl
    have b_4 := g_b hG (a := 77) (i := 1) (lo := 0) (hi := 500) rfl rfl
    exfalso; omega
  | succ nn9 ih =>
    intro N u1 x2 hG F0 g1 g2 g3 g4 g5 g6 g7 g8 g9 g10 hm
    have b_5 := g_b hG (a := 77) (i := 7) (lo := 0) (hi := 500) rfl rfl
    have b_6 := g_b hG (a := 77) (i := 8) (lo := 0) (hi := 5) rfl rfl
    have b_7 := g_b hG (a := 77) (i := 6) (lo := 0) (hi := 500) rfl rfl
    have b_8 := g_b hG (a := 77) (i := 1) (lo := 0) (hi := 500) rfl rfl
    refine to_an (pc := 22) rw_173_22 rfl (tt_gI (pc := 23) rw_173_23 (g_o hG rfl) (v := (N.2.1 77 8)) rfl (b_ieq (pc := 26) rw_173_26 (A := (N.2.1 77 8).toInt) rfl (fun h9 => ?_) (fun h9 => ?_)))
    · refine to_an (pc := 53) rw_173_53 rfl (s_v (pc := 54) rw_173_54 (dp0 hd (by decide)) (ls0 := [.ref 77, .null]) rfl (Nat.le_of_ble_eq_true rfl) (Nat.le_of_ble_eq_true rfl) rfl (to_rc rfl rfl rfl (g_o hG rfl)) rfl (C_165 hX (dp1 hd (by decide)) hG g2 g7  (fun M19 hG11 F10 p_12 p_13 p_14 p_15 p_16 p_17 p_18 => ?_)))
      have F20 := FR.c F0 F10 tg_81
      have b_21 := g_b hG11 (a := 77) (i := 28) (lo := 0) (hi := 30) rfl rfl
      have b_22 := g_b hG11 (a := 77) (i := 29) (lo := 0) (hi := 150) rfl rfl
      have b_23 := g_b hG11 (a := 77) (i := 58) (lo := 0) (hi := 40) rfl rfl
      have b_24 := g_b hG11 (a := 77) (i := 57) (lo := 0) (hi := 1) rfl rfl
      have j_25 : NJ M19 := NJ_0 (by omega)
      have j_26 : KQ M19 := KQ_0 (by omega) (by omega)
      refine to_in (pc := 57) rw_173_57 rfl (to_r0 (pc := 58) rw_173_58 ?_)
      have c_27 : M19.2.1 77 7 = (N.2.1 77 7) := (F_n F10 (show ¬ (77 = 77 ∧ (11 ≤ 7 ∧ 7 ≤ 13 ∨ 7 = 28 ∨ 7 = 29 ∨ 7 = 41 ∨ 7 = 57 ∨ 7 = 58) ∨ 80 ≤ 77 ∧ 77 ≤ 87 ∨ 77 = 100) by decide) rfl)
      have t_28 : (M19.2.1 77 7).toInt = (N.2.1 77 7).toInt := congrArg Int32.toInt c_27
      have c_29 : M19.2.1 77 6 = (N.2.1 77 6) := (F_n F10 (show ¬ (77 = 77 ∧ (11 ≤ 6 ∧ 6 ≤ 13 ∨ 6 = 28 ∨ 6 = 29 ∨ 6 = 41 ∨ 6 = 57 ∨ 6 = 58) ∨ 80 ≤ 77 ∧ 77 ≤ 87 ∨ 77 = 100) by decide) rfl)
      have t_30 : (M19.2.1 77 6).toInt = (N.2.1 77 6).toInt := congrArg Int32.toInt c_29
      have c_31 : M19.2.1 77 1 = (N.2.1 77 1) := (F_n F10 (show ¬ (77 = 77 ∧ (11 ≤ 1 ∧ 1 ≤ 13 ∨ 1 = 28 ∨ 1 = 29 ∨ 1 = 41 ∨ 1 = 57 ∨ 1 = 58) ∨ 80 ≤ 77 ∧ 77 ≤ 87 ∨ 77 = 100) by decide) rfl)
      have t_32 : (M19.2.1 77 1).toInt = (N.2.1 77 1).toInt := congrArg Int32.toInt c_31
      exact h x2 M19 hG11 F20 (by omega) p_16 p_17 j_25 p_18 j_26 (by omega) (by omega)
    · refine to_an (pc := 29) rw_173_29 rfl (to_in (pc := 30) rw_173_30 rfl (b_ine (pc := 31) rw_173_31 (A := x2.toInt) rfl (fun h33 => ?_) (fun h33 => ?_)))
      · refine to_c (pc := 38) rw_173_38 (x := (0 : Int32)) rfl rfl (s_v (pc := 39) rw_173_39 (dp0 hd (by decide)) (ls0 := [.ref 77, .int (0 : Int32)]) rfl (Nat.le_of_ble_eq_true rfl) (Nat.le_of_ble_eq_true rfl) rfl (to_rc rfl rfl rfl (g_o hG rfl)) rfl ?_)
        have k_34 : (0 : Int32).toInt = 0 := rfl
        refine C_172 hX (dp1 hd (by decide)) hG (by omega) (by omega) (by omega) g2 g7 (x := (0 : Int32)) (fun r35 M46 hG37 F36 p_38 p_39 p_40 p_41 p_42 p_43 p_44 p_45 => ?_)
        have F47 := FR.c F0 F36 tg_82
        have b_48 := g_b hG37 (a := 77) (i := 7) (lo := 0) (hi := 500) rfl rfl
        have c_49 : M46.2.1 77 6 = (N.2.1 77 6) := (F_n F36 (show ¬ (77 = 77 ∧ (6 = 4 ∨ 6 = 5 ∨ 7 ≤ 6 ∧ 6 ≤ 10 ∨ 14 ≤ 6 ∧ 6 ≤ 16 ∨ 6 = 25) ∨ 80 ≤ 77 ∧ 77 ≤ 84 ∧ 8 ≤ 6 ∨ 85 ≤ 77 ∧ 77 ≤ 87 ∧ 12 ≤ 6) by decide) rfl)
        have t_50 : (M46.2.1 77 6).toInt = (N.2.1 77 6).toInt := congrArg Int32.toInt c_49
        have b_51 := g_b hG37 (a := 77) (i := 8) (lo := 0) (hi := 5) rfl rfl
        refine b_ine (pc := 42) rw_173_42 (A := r35.toInt) rfl (fun h52 => ?_) (fun h52 => ?_)
        · refine s_incx (pc := 47) rw_173_47 (ls2 := fun v => [.ref 77, u1, .int v]) rfl rfl (fun _ => rfl) (fun v53 => to_go (pc := 50) rw_173_50 ?_)
          have j_55 := (WC_f (tg_234 F36) g3)
          have j_56 := (NJ_f (tg_235 F36) g4)
          have j_57 := (PS_f (tg_236 F36) g5)
          have j_58 := (KQ_f (tg_237 F36) g6)
          have c_59 : M46.2.1 77 1 = (N.2.1 77 1) := (F_n F36 (show ¬ (77 = 77 ∧ (1 = 4 ∨ 1 = 5 ∨ 7 ≤ 1 ∧ 1 ≤ 10 ∨ 14 ≤ 1 ∧ 1 ≤ 16 ∨ 1 = 25) ∨ 80 ≤ 77 ∧ 77 ≤ 84 ∧ 8 ≤ 1 ∨ 85 ≤ 77 ∧ 77 ≤ 87 ∧ 12 ≤ 1) by decide) rfl)
          have t_60 : (M46.2.1 77 1).toInt = (N.2.1 77 1).toInt := congrArg Int32.toInt c_59
          exact ih M46 (u1) v53 hG37 F47 (by omega) p_44 j_55 j_56 j_57 j_58 p_45 (by omega) (by omega) (by omega) (by omega)
        · refine to_c (pc := 45) rw_173_45 (x := (-1 : Int32)) rfl rfl (to_r0 (pc := 46) rw_173_46 ?_)
          have k_61 : (-1 : Int32).toInt = -1 := rfl
          have j_62 := (WC_f (tg_234 F36) g3)
          have j_63 := (NJ_f (tg_235 F36) g4)
          have j_64 := (PS_f (tg_236 F36) g5)
          have j_65 := (KQ_f (tg_237 F36) g6)
          have c_66 : M46.2.1 77 1 = (N.2.1 77 1) := (F_n F36 (show ¬ (77 = 77 ∧ (1 = 4 ∨ 1 = 5 ∨ 7 ≤ 1 ∧ 1 ≤ 10 ∨ 14 ≤ 1 ∧ 1 ≤ 16 ∨ 1 = 25) ∨ 80 ≤ 77 ∧ 77 ≤ 84 ∧ 8 ≤ 1 ∨ 85 ≤ 77 ∧ 77 ≤ 87 ∧ 12 ≤ 1) by decide) rfl)
          have t_67 : (M46.2.1 77 1).toInt = (N.2.1 77 1).toInt := congrArg Int32.toInt c_66
          exact h (-1 : Int32) M46 hG37 F47 (by omega) p_44 j_62 j_63 j_64 j_65 (by omega) (by omega)
      · refine to_c (pc := 34) rw_173_34 (x := (1 : Int32)) rfl rfl (to_go (pc := 35) rw_173_35 (s_v (pc := 39) rw_173_39 (dp0 hd (by decide)) (ls0 := [.ref 77, .int (1 : Int32)]) rfl (Nat.le_of_ble_eq_true rfl) (Nat.le_of_ble_eq_true rfl) rfl (to_rc rfl rfl rfl (g_o hG rfl)) rfl ?_))
        have k_68 : (1 : Int32).toInt = 1 := rfl
        refine C_172 hX (dp1 hd (by decide)) hG (by omega) (by omega) (by omega) g2 g7 (x := (1 : Int32)) (fun r69 M80 hG71 F70 p_72 p_73 p_74 p_75 p_76 p_77 p_78 p_79 => ?_)
        have F81 := FR.c F0 F70 tg_82
        have b_82 := g_b hG71 (a := 77) (i := 7) (lo := 0) (hi := 500) rfl rfl
        have c_83 : M80.2.1 77 6 = (N.2.1 77 6) := (F_n F70 (show ¬ (77 = 77 ∧ (6 = 4 ∨ 6 = 5 ∨ 7 ≤ 6 ∧ 6 ≤ 10 ∨ 14 ≤ 6 ∧ 6 ≤ 16 ∨ 6 = 25) ∨ 80 ≤ 77 ∧ 77 ≤ 84 ∧ 8 ≤ 6 ∨ 85 ≤ 77 ∧ 77 ≤ 87 ∧ 12 ≤ 6) by decide) rfl)
        have t_84 : (M80.2.1 77 6).toInt = (N.2.1 77 6).toInt := congrArg Int32.toInt c_83
        have b_85 := g_b hG71 (a := 77) (i := 8) (lo := 0) (hi := 5) rfl rfl
        refine b_ine (pc := 42) rw_173_42 (A := r69.toInt) rfl (fun h86 => ?_) (fun h86 => ?_)
        · refine s_inc (pc := 47) rw_173_47 (ls2 := fun v => [.ref 77, u1, .int v]) rfl rfl (fun _ => rfl) (A := x2.toInt) (B := 1) rfl rfl (by omega) (fun v87 e88 => to_go (pc := 50) rw_173_50 ?_)
          have j_89 := (WC_f (tg_234 F70) g3)
          have j_90 := (NJ_f (tg_235 F70) g4)
          have j_91 := (PS_f (tg_236 F70) g5)
          have j_92 := (KQ_f (tg_237 F70) g6)
          have c_93 : M80.2.1 77 1 = (N.2.1 77 1) := (F_n F70 (show ¬ (77 = 77 ∧ (1 = 4 ∨ 1 = 5 ∨ 7 ≤ 1 ∧ 1 ≤ 10 ∨ 14 ≤ 1 ∧ 1 ≤ 16 ∨ 1 = 25) ∨ 80 ≤ 77 ∧ 77 ≤ 84 ∧ 8 ≤ 1 ∨ 85 ≤ 77 ∧ 77 ≤ 87 ∧ 12 ≤ 1) by decide) rfl)
          have t_94 : (M80.2.1 77 1).toInt = (N.2.1 77 1).toInt := congrArg Int32.toInt c_93
          exact ih M80 (u1) v87 hG71 F81 (by omega) p_78 j_89 j_90 j_91 j_92 p_79 (by omega) (by omega) (by omega) (by omega)
        · refine to_c (pc := 45) rw_173_45 (x := (-1 : Int32)) rfl rfl (to_r0 (pc := 46) rw_173_46 ?_)
          have k_95 : (-1 : Int32).toInt = -1 := rfl
          have j_96 := (WC_f (tg_234 F70) g3)
          have j_97 := (NJ_f (tg_235 F70) g4)
          have j_98 := (PS_f (tg_236 F70) g5)
          have j_99 := (KQ_f (tg_237 F70) g6)
          have c_100 : M80.2.1 77 1 = (N.2.1 77 1) := (F_n F70 (show ¬ (77 = 77 ∧ (1 = 4 ∨ 1 = 5 ∨ 7 ≤ 1 ∧ 1 ≤ 10 ∨ 14 ≤ 1 ∧ 1 ≤ 16 ∨ 1 = 25) ∨ 80 ≤ 77 ∧ 77 ≤ 84 ∧ 8 ≤ 1 ∨ 85 ≤ 77 ∧ 77 ≤ 87 ∧ 12 ≤ 1) by decide) rfl)
          have t_101 : (M80.2.1 77 1).toInt = (N.2.1 77 1).toInt := congrArg Int32.toInt c_100
          exact h (-1 : Int32) M80 hG71 F81 (by omega) p_78 j_96 j_97 j_98 j_99 (by omega) (by omega)
set_option maxRecDepth 4000 in
set_option maxHeartbeats 0 in
theorem C_173 {X : mm_X} {d : Nat} {M : mm_M} {Q : Option Value → mm_M → Prop} {n : Int32} (hX : g_X X) (hd : 5 ≤ d) (hG : g_G M) (q1 : (M.2.1 77 7).toInt ≤ (M.2.1 77 6).toInt) (q2 : FA M) (q3 : WC M) (q4 : NJ M) (q5 : PS M) (q6 : KQ M) (h : ∀ (r : Int32) (M1 : mm_M), g_G M1 → FR md_P M M1 → ((M1.2.1 77 7).toInt ≤ (M1.2.1 77 6).toInt) → FA M1 → WC M1 → NJ M1 → PS M1 → KQ M1 → (n.toInt < 0 ∨ (M.2.1 77 1).toInt < n.toInt → (M1.2.1 77 1).toInt = (M.2.1 77 1).toInt) → (0 ≤ n.toInt ∧ n.toInt ≤ (M.2.1 77 1).toInt → (M1.2.1 77 1).toInt = 0) → Q (some (.int r)) M1) : mm_T X d 172 0 [.ref 77, .int n, .null] [] M Q := by
  have F0 : FR md_P M M := FR.rf
  have b_102 := g_b hG (a := 77) (i := 7) (lo := 0) (hi := 500) rfl rfl
  have b_103 := g_b hG (a := 77) (i := 6) (lo := 0) (hi := 500) rfl rfl
  refine to_an (pc := 0) rw_173_0 rfl (to_c (pc := 1) rw_173_1 (x := (0 : Int32)) rfl rfl (s_pI (pc := 2) rw_173_2 hG rfl (fun M105 W104 => ?_)))
  have hG106 := g_wf hG W104 rfl rfl (by decide)
  have F107 := FR.w F0 W104 (show 77 = 77 ∨ 79 < 77 ∧ 77 ≤ 87 ∨ 77 = 100 by decide)
  refine to_an (pc := 5) rw_173_5 rfl (to_in (pc := 6) rw_173_6 rfl (s_v (pc := 7) rw_173_7 (dp0 hd (by decide)) (ls0 := [.ref 77, .int n]) rfl (Nat.le_of_ble_eq_true rfl) (Nat.le_of_ble_eq_true rfl) rfl (to_rc rfl rfl rfl (g_o hG106 rfl)) rfl ?_))
  have c_108 : M105.2.1 77 1 = (M.2.1 77 1) := (W_n W104 (by decide) rfl)
  have b_109 := g_b hG (a := 77) (i := 1) (lo := 0) (hi := 500) rfl rfl
  have t_110 : (M105.2.1 77 1).toInt = (M.2.1 77 1).toInt := congrArg Int32.toInt c_108
  have c_111 : M105.2.1 77 7 = (M.2.1 77 7) := (W_n W104 (by decide) rfl)
  have t_112 : (M105.2.1 77 7).toInt = (M.2.1 77 7).toInt := congrArg Int32.toInt c_111
  have c_113 : M105.2.1 77 6 = (M.2.1 77 6) := (W_n W104 (by decide) rfl)
  have t_114 : (M105.2.1 77 6).toInt = (M.2.1 77 6).toInt := congrArg Int32.toInt c_113
  refine C_163 hX (dp1 hd (by decide)) hG106 (by omega) (n := n) (fun r115 M123 hG117 F116 p_118 p_119 p_120 p_121 p_122 => ?_)
  have F124 := FR.c F107 F116 tg_83
  have b_125 := g_b hG117 (a := 77) (i := 7) (lo := 0) (hi := 500) rfl rfl
  have b_126 := g_b hG117 (a := 77) (i := 6) (lo := 0) (hi := 500) rfl rfl
  have b_127 := g_b hG117 (a := 77) (i := 1) (lo := 0) (hi := 500) rfl rfl
  refine b_ine (pc := 10) rw_173_10 (A := r115.toInt) rfl (fun h128 => ?_) (fun h128 => ?_)
  · refine to_an (pc := 16) rw_173_16 rfl (s_v (pc := 17) rw_173_17 (dp0 hd (by decide)) (ls0 := [.ref 77]) rfl (Nat.le_of_ble_eq_true rfl) (Nat.le_of_ble_eq_true rfl) rfl (to_rc rfl rfl rfl (g_o hG117 rfl)) rfl (C_164 hX (dp1 hd (by decide)) hG117  (fun M134 hG130 F129 p_131 p_132 p_133 => ?_)))
    have F135 := FR.c F124 F129 tg_84
    have b_136 := g_b hG130 (a := 77) (i := 16) (lo := 0) (hi := 12) rfl rfl
    have b_137 := g_b hG130 (a := 77) (i := 15) (lo := 0) (hi := 8) rfl rfl
    have b_138 := g_b hG130 (a := 77) (i := 14) (lo := 10) (hi := 60) rfl rfl
    have j_139 : WR M134 := WR_0 (by omega)
    refine to_c (pc := 20) rw_173_20 (x := (0 : Int32)) rfl rfl (to_isn (pc := 21) rw_173_21 (ls2 := [.ref 77, .int n, .int (0 : Int32)]) rfl rfl ?_)
    have k_140 : (0 : Int32).toInt = 0 := rfl
    have c_141 : M134.2.1 77 7 = (M123.2.1 77 7) := (F_n F129 (show ¬ (77 = 77 ∧ (14 ≤ 7 ∧ 7 ≤ 16 ∨ 7 = 25)) by decide) rfl)
    have t_142 : (M134.2.1 77 7).toInt = (M123.2.1 77 7).toInt := congrArg Int32.toInt c_141
    have c_143 : M134.2.1 77 6 = (M123.2.1 77 6) := (F_n F129 (show ¬ (77 = 77 ∧ (14 ≤ 6 ∧ 6 ≤ 16 ∨ 6 = 25)) by decide) rfl)
    have t_144 : (M134.2.1 77 6).toInt = (M123.2.1 77 6).toInt := congrArg Int32.toInt c_143
    have j_145 := (FA_f (tg_238 F129) (FA_f (tg_239 F116) (FA_f (fun a i z => W_n W104 (tg_94 a i z) rfl) q2)))
    have j_146 := (WC_f (tg_240 F129) (WC_f (tg_241 F116) (WC_f (fun a i z => W_n W104 (by /-r77,2-/ omega) rfl) q3)))
    have j_147 := (NJ_f (tg_242 F129) (NJ_f (tg_243 F116) (NJ_f (fun a i z => W_n W104 (by /-r77,2-/ omega) rfl) q4)))
    have j_148 := (PS_f (tg_244 F129) (PS_f (tg_245 F116) (PS_f (fun a i z => W_n W104 (tg_259 a i z) rfl) q5)))
    have j_149 := (KQ_f (tg_246 F129) (KQ_f (tg_247 F116) (KQ_f (fun a i z => W_n W104 (by /-r77,2-/ omega) rfl) q6)))
    have c_150 : M134.2.1 77 1 = (M123.2.1 77 1) := (F_n F129 (show ¬ (77 = 77 ∧ (14 ≤ 1 ∧ 1 ≤ 16 ∨ 1 = 25)) by decide) rfl)
    have t_151 : (M134.2.1 77 1).toInt = (M123.2.1 77 1).toInt := congrArg Int32.toInt c_150
    have c_152 : M134.2.1 77 8 = (M123.2.1 77 8) := (F_n F129 (show ¬ (77 = 77 ∧ (14 ≤ 8 ∧ 8 ≤ 16 ∨ 8 = 25)) by decide) rfl)
    have b_153 := g_b hG117 (a := 77) (i := 8) (lo := 0) (hi := 5) rfl rfl
    have t_154 : (M134.2.1 77 8).toInt = (M123.2.1 77 8).toInt := congrArg Int32.toInt c_152
    exact (T_173_0 (n := n) hX hd q1 q2 q3 q4 q5 q6 h ((6 * (500 - (M134.2.1 77 7).toInt) + (M134.2.1 77 8).toInt).toNat + 1)) M134 (.int n) (0 : Int32) hG130 F135 (by omega) j_145 j_146 j_147 j_148 j_149 j_139 (by omega) (by omega) (by omega) (by omega)
  · refine to_c (pc := 13) rw_173_13 (x := (-2 : Int32)) rfl rfl (to_r0 (pc := 15) rw_173_15 ?_)
    have k_155 : (-2 : Int32).toInt = -2 := rfl
    have j_156 := (FA_f (tg_239 F116) (FA_f (fun a i z => W_n W104 (tg_94 a i z) rfl) q2))
    have j_157 := (WC_f (tg_241 F116) (WC_f (fun a i z => W_n W104 (by /-r77,2-/ omega) rfl) q3))
    have j_158 := (NJ_f (tg_243 F116) (NJ_f (fun a i z => W_n W104 (by /-r77,2-/ omega) rfl) q4))
    have j_159 := (PS_f (tg_245 F116) (PS_f (fun a i z => W_n W104 (tg_259 a i z) rfl) q5))
    have j_160 := (KQ_f (tg_247 F116) (KQ_f (fun a i z => W_n W104 (by /-r77,2-/ omega) rfl) q6))
    exact h (-2 : Int32) M123 hG117 F124 (by omega) j_156 j_157 j_158 j_159 j_160 (by omega) (by omega)
