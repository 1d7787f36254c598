theorem tg_160 {M M1 : mm_M} (F : FR (fun a i : Nat => a = 77 ∧ (i = 4 ∨ i = 5 ∨ 7 ≤ i ∧ i ≤ 10) ∨ a = 106 ∨ a = 107) M M1) : ∀ a i : Nat, a = 78 → M1.2.1 a i = M.2.1 a i := fun a i z => F_n F (show ¬ (a = 77 ∧ (i = 4 ∨ i = 5 ∨ 7 ≤ i ∧ i ≤ 10) ∨ a = 106 ∨ a = 107) by omega) rfl
theorem tg_161 {M M1 : mm_M} (F : FR (fun a i : Nat => a = 77 ∧ (i = 4 ∨ i = 5 ∨ 7 ≤ i ∧ i ≤ 10) ∨ a = 106 ∨ a = 107) M M1) : ∀ a i : Nat, a = 79 → M1.2.1 a i = M.2.1 a i := fun a i z => F_n F (show ¬ (a = 77 ∧ (i = 4 ∨ i = 5 ∨ 7 ≤ i ∧ i ≤ 10) ∨ a = 106 ∨ a = 107) by omega) rfl
theorem tg_162 {M M1 : mm_M} (F : FR (fun a i : Nat => a = 77 ∧ (i = 4 ∨ i = 5 ∨ 7 ≤ i ∧ i ≤ 10) ∨ a = 106 ∨ a = 107) M M1) : ∀ a i : Nat, (a = 77 ∧ 11 ≤ i ∧ i ≤ 13 ∨ 80 ≤ a ∧ a ≤ 84 ∧ i < 8 ∨ 85 ≤ a ∧ a ≤ 86 ∧ i < 12) → M1.2.1 a i = M.2.1 a i := fun a i z => F_n F (show ¬ (a = 77 ∧ (i = 4 ∨ i = 5 ∨ 7 ≤ i ∧ i ≤ 10) ∨ a = 106 ∨ a = 107) by omega) rfl
theorem tg_163 {M M1 : mm_M} (F : FR (fun a i : Nat => a = 77 ∧ (i = 4 ∨ i = 5 ∨ 7 ≤ i ∧ i ≤ 10)) M M1) : ∀ a i : Nat, a = 78 → M1.2.1 a i = M.2.1 a i := fun a i z => F_n F (show ¬ (a = 77 ∧ (i = 4 ∨ i = 5 ∨ 7 ≤ i ∧ i ≤ 10)) by omega) rfl
theorem tg_164 {M M1 : mm_M} (F : FR (fun a i : Nat => a = 77 ∧ (i = 4 ∨ i = 5 ∨ 7 ≤ i ∧ i ≤ 10)) M M1) : ∀ a i : Nat, a = 79 → M1.2.1 a i = M.2.1 a i := fun a i z => F_n F (show ¬ (a = 77 ∧ (i = 4 ∨ i = 5 ∨ 7 ≤ i ∧ i ≤ 10)) by omega) rfl
theorem tg_165 {M M1 : mm_M} (F : FR (fun a i : Nat => a = 77 ∧ (i = 4 ∨ i = 5 ∨ 7 ≤ i ∧ i ≤ 10)) M M1) : ∀ a i : Nat, (a = 77 ∧ 11 ≤ i ∧ i ≤ 13 ∨ 80 ≤ a ∧ a ≤ 84 ∧ i < 8 ∨ 85 ≤ a ∧ a ≤ 86 ∧ i < 12) → M1.2.1 a i = M.2.1 a i := fun a i z => F_n F (show ¬ (a = 77 ∧ (i = 4 ∨ i = 5 ∨ 7 ≤ i ∧ i ≤ 10)) by omega) rfl
theorem tg_166 {M M1 : mm_M} (F : FR (fun a i : Nat => a = 77 ∧ (i = 4 ∨ i = 5)) M M1) : ∀ a i : Nat, (a = 77 ∧ 11 ≤ i ∧ i ≤ 13 ∨ 80 ≤ a ∧ a ≤ 84 ∧ i < 8 ∨ 85 ≤ a ∧ a ≤ 86 ∧ i < 12) → M1.2.1 a i = M.2.1 a i := fun a i z => F_n F (show ¬ (a = 77 ∧ (i = 4 ∨ i = 5)) by omega) rfl
theorem tg_167 : ∀ a i : Nat, (a = 77 ∧ (i = 4 ∨ i = 5 ∨ 7 ≤ i ∧ i ≤ 10) ∨ a = 106 ∨ a = 107) → (a = 77 ∧ (i = 4 ∨ i = 5 ∨ 7 ≤ i ∧ i ≤ 10) ∨ 102 ≤ a ∧ a ≤ 104 ∨ a = 106 ∨ a = 107) := fun a i z => by omega
theorem tg_168 : ∀ a i : Nat, (a = 77 ∧ (i = 4 ∨ i = 5 ∨ 7 ≤ i ∧ i ≤ 10)) → (a = 77 ∧ (i = 4 ∨ i = 5 ∨ 7 ≤ i ∧ i ≤ 10) ∨ 102 ≤ a ∧ a ≤ 104 ∨ a = 106 ∨ a = 107) := fun a i z => by omega
theorem tg_169 : ∀ a i : Nat, (a = 77 ∧ (i = 4 ∨ i = 5)) → (a = 77 ∧ (i = 4 ∨ i = 5 ∨ 7 ≤ i ∧ i ≤ 10) ∨ 102 ≤ a ∧ a ≤ 104 ∨ a = 106 ∨ a = 107) := fun a i z => by omega
theorem tg_170 : ∀ a i : Nat, (a = 77 ∧ 7 ≤ i ∧ i ≤ 10) → (a = 77 ∧ (i = 4 ∨ i = 5 ∨ 7 ≤ i ∧ i ≤ 10) ∨ 102 ≤ a ∧ a ≤ 104 ∨ a = 106 ∨ a = 107) := fun a i z => by omega
theorem tg_171 : ∀ a i j : Nat, (a = 77 ∧ 6 ≤ i ∧ i ≤ 10) → ¬ (a = 102 ∧ i = j) := fun a i j z => by omega
theorem tg_172 : ∀ a i j : Nat, a = 78 → ¬ (a = 102 ∧ i = j) := fun a i j z => by omega
theorem tg_173 : ∀ a i j : Nat, a = 79 → ¬ (a = 102 ∧ i = j) := fun a i j z => by omega
theorem tg_174 : ∀ a i j : Nat, (a = 77 ∧ 6 ≤ i ∧ i ≤ 10) → ¬ (a = 103 ∧ i = j) := fun a i j z => by omega
theorem tg_175 : ∀ a i j : Nat, a = 78 → ¬ (a = 103 ∧ i = j) := fun a i j z => by omega
theorem tg_176 : ∀ a i j : Nat, a = 79 → ¬ (a = 103 ∧ i = j) := fun a i j z => by omega
theorem tg_177 : ∀ a i j : Nat, (a = 77 ∧ 6 ≤ i ∧ i ≤ 10) → ¬ (a = 104 ∧ i = j) := fun a i j z => by omega
theorem tg_178 : ∀ a i j : Nat, a = 78 → ¬ (a = 104 ∧ i = j) := fun a i j z => by omega
theorem tg_179 : ∀ a i j : Nat, a = 79 → ¬ (a = 104 ∧ i = j) := fun a i j z => by omega
theorem tg_180 : ∀ a i j : Nat, a = 78 → ¬ (a = 107 ∧ i = j) := fun a i j z => by omega
theorem tg_181 : ∀ a i j : Nat, a = 79 → ¬ (a = 107 ∧ i = j) := fun a i j z => by omega
theorem tg_182 : ∀ a i j : Nat, (a = 77 ∧ 11 ≤ i ∧ i ≤ 13 ∨ 80 ≤ a ∧ a ≤ 84 ∧ i < 8 ∨ 85 ≤ a ∧ a ≤ 86 ∧ i < 12) → ¬ (a = 107 ∧ i = j) := fun a i j z => by omega
theorem tg_183 : ∀ a i j : Nat, (a = 77 ∧ 11 ≤ i ∧ i ≤ 13 ∨ 80 ≤ a ∧ a ≤ 84 ∧ i < 8 ∨ 85 ≤ a ∧ a ≤ 86 ∧ i < 12) → ¬ (a = 104 ∧ i = j) := fun a i j z => by omega
theorem tg_184 : ∀ a i j : Nat, (a = 77 ∧ 11 ≤ i ∧ i ≤ 13 ∨ 80 ≤ a ∧ a ≤ 84 ∧ i < 8 ∨ 85 ≤ a ∧ a ≤ 86 ∧ i < 12) → ¬ (a = 103 ∧ i = j) := fun a i j z => by omega
theorem tg_185 : ∀ a i j : Nat, (a = 77 ∧ 11 ≤ i ∧ i ≤ 13 ∨ 80 ≤ a ∧ a ≤ 84 ∧ i < 8 ∨ 85 ≤ a ∧ a ≤ 86 ∧ i < 12) → ¬ (a = 102 ∧ i = j) := fun a i j z => by omega
set_option maxRecDepth 4000 in
set_option maxHeartbeats 0 in
theorem U_213_0 {X : mm_X} {d : Nat} {M : mm_M} {Q : Option Value → mm_M → Prop} {e : Int32} {t : Nat → Int} {nn : Int} {a : Int} {sg : x_S} {n9 : Int} {op : List Int} {A9 : x_A} (hX : g_X X) (hd : 3 ≤ d) (q1 : 0 ≤ e.toInt) (q2 : e.toInt ≤ 39) (q3 : RS M t nn) (q4 : (M.2.1 77 10).toInt = a) (q5 : 0 ≤ nn) (q6 : nn ≤ 500) (q7 : TR M t nn) (q8 : W9 M) (q9 : PLk M sg) (h : ∀ (r : Int32) (M1 : mm_M), g_G M1 → FR md_ps M M1 → (0 ≤ r.toInt) → (r.toInt ≤ 1) → ((r.toInt = 1 → RS M1 t nn)) → (∀ r i : Nat, (102 ≤ r ∧ r ≤ 104) → ¬ i = (e.toInt).toNat → M1.2.1 r i = M.2.1 r i) → ((r.toInt = 1 → x_wps t nn sg a (x_ww t nn sg 1 n9 op A9) = x_ww t nn sg 0 n9 op A9 (M1.2.1 77 10).toInt)) → ((r.toInt = 0 → x_wps t nn sg a (x_ww t nn sg 1 n9 op A9) = Sum.inl ((M1.2.1 77 4).toInt, (M1.2.1 77 5).toInt))) → Q (some (.int r)) M1) : ∀ nn9 : Nat, (∀ (N : mm_M), g_G N → FR md_ps M N → (RS N t nn) → (0 ≤ nn) → (nn ≤ 500) → (TR N t nn) → (W9 N) → (PLk N sg) → (∀ r i : Nat, (102 ≤ r ∧ r ≤ 104) → ¬ i = (e.toInt).toNat → N.2.1 r i = M.2.1 r i) → (x_wps t nn sg a (x_ww t nn sg 1 n9 op A9) = x_ww t nn sg 1 n9 op A9 (N.2.1 77 10).toInt) → 501 - (N.2.1 77 10).toInt < (nn9 : Int) → mm_T X d 212 133 [.ref 77, .int e] [] N Q) := by
  intro nn9
  induction nn9 with
  | zero =>
    intro N hG F0 g1 g2 g3 g4 g5 g6 g7 g8 hm
    have b_1 := g_b hG (a := 77) (i := 10) (lo := 0) (hi := 500) rfl rfl
    exfalso; omega
  | succ nn9 ih =>
    intro N hG F0 g1 g2 g3 g4 g5 g6 g7 g8 hm
    have b_2 := g_b hG (a := 77) (i := 10) (lo := 0) (hi := 500) rfl rfl
    have b_3 := g_b hG (a := 77) (i := 8) (lo := 0) (hi := 5) rfl rfl
    have z_4 := RS_k g1 (a := (N.2.1 77 10).toInt) (by omega)
    have b_5 := g_b hG (a := 77) (i := 6) (lo := 0) (hi := 500) rfl rfl
    have b_6 := g_b hG (a := 77) (i := 7) (lo := 0) (hi := 500) rfl rfl
    have z_7 := RS_b g1 (a := (N.2.1 77 10).toInt) (by omega)
    refine to_an (pc := 133) rw_213_133 rfl ?_
    refine tt_gI (pc := 134) rw_213_134 (g_o hG rfl) (v := (N.2.1 77 8)) rfl ?_
    refine to_c (pc := 137) rw_213_137 (x := (3 : Int32)) rfl rfl ?_
    refine b_ceq (pc := 138) rw_213_138 (A := (N.2.1 77 8).toInt) (B := 3) rfl rfl (fun h8 => ?_) (fun h8 => ?_)
    · refine to_an (pc := 149) rw_213_149 rfl ?_
      refine to_in (pc := 150) rw_213_150 rfl ?_
      refine s_v (pc := 151) rw_213_151 (dp0 hd (by decide)) (ls0 := [.ref 77, .int e, .null, .null]) rfl (Nat.le_of_ble_eq_true rfl) (Nat.le_of_ble_eq_true rfl) rfl (to_rc rfl rfl rfl (g_o hG rfl)) rfl ?_
      refine E_212 hX (dp1 hd (by decide)) hG (by omega) (by omega) g1 (by omega) (by omega) (by omega) g4 g5 g6 (by omega) (e := e) (t := t) (nn := nn) (a := (N.2.1 77 10).toInt) (sg := sg) (fun r9 M18 hG11 F10 p_12 p_13 p_14 p_15 p_16 p_17 => ?_)
      have F19 := FR.c F0 F10 tg_167
      have b_20 := g_b hG11 (a := 77) (i := 10) (lo := 0) (hi := 500) rfl rfl
      rcases (show r9.toInt = 0 ∨ r9.toInt = 1 by omega) with h21 | h21
      · skip
        have p_22 := p_17 (by omega)
        clear p_14 p_15 p_16 p_17
        have z_23 := g8.trans (w1_nx (by omega) (by omega) (by omega) p_22)
        refine b_ine_f (pc := 154) rw_213_154 (A := r9.toInt) rfl (by omega) ?_
        refine to_c (pc := 157) rw_213_157 (x := (0 : Int32)) rfl rfl ?_
        refine s_r1 (pc := 158) rw_213_158 (A := 0) rfl (by decide) ?_
        have k_24 : (0 : Int32).toInt = 0 := rfl
        exact h (0 : Int32) M18 hG11 F19 (by decide) (by decide) (fun z => by exfalso; omega) (fun r i z z2 => (F_n F10 (show ¬ (r = 77 ∧ (i = 4 ∨ i = 5 ∨ 7 ≤ i ∧ i ≤ 10) ∨ r = 106 ∨ r = 107) by omega) (g7 r i z z2))) (fun z => by exfalso; omega) (fun _ => winl (by omega) (by omega) z_23)
      · skip
        have p_25 := p_14 (by omega)
        have p_26 := p_15 (by omega)
        have p_27 := p_16 (by omega)
        clear p_14 p_15 p_16 p_17
        have z_28 := g8.trans (w1_ny (by omega) (by omega) p_27)
        refine b_ine_t (pc := 154) rw_213_154 (A := r9.toInt) rfl (by omega) ?_
        have j_29 := (TR_f (tg_160 F10) g4)
        have j_30 := (W9_f (tg_161 F10) g5)
        have j_31 := (PLk_f (tg_162 F10) g6)
        exact ih M18  hG11 F19 p_26 (by omega) (by omega) j_29 j_30 j_31 (fun r i z z2 => (F_n F10 (show ¬ (r = 77 ∧ (i = 4 ∨ i = 5 ∨ 7 ≤ i ∧ i ≤ 10) ∨ r = 106 ∨ r = 107) by omega) (g7 r i z z2))) z_28 (by omega)
    · refine to_an (pc := 141) rw_213_141 rfl ?_
      refine tt_gI (pc := 142) rw_213_142 (g_o hG rfl) (v := (N.2.1 77 8)) rfl ?_
      refine to_c (pc := 145) rw_213_145 (x := (2 : Int32)) rfl rfl ?_
      refine b_cne (pc := 146) rw_213_146 (A := (N.2.1 77 8).toInt) (B := 2) rfl rfl (fun h32 => ?_) (fun h32 => ?_)
      · refine to_an (pc := 159) rw_213_159 rfl ?_
        refine to_c (pc := 160) rw_213_160 (x := (59 : Int32)) rfl rfl ?_
        refine s_v (pc := 162) rw_213_162 (dp0 hd (by decide)) (ls0 := [.ref 77, .int (59 : Int32)]) rfl (Nat.le_of_ble_eq_true rfl) (Nat.le_of_ble_eq_true rfl) rfl (to_rc rfl rfl rfl (g_o hG rfl)) rfl ?_
        have k_33 : (59 : Int32).toInt = 59 := rfl
        refine E_160w hX (dp1 hd (by decide)) hG g1 (by omega) (by omega) (by omega) g4 g5 (by omega) (c := (59 : Int32)) (t := t) (nn := nn) (a := (N.2.1 77 10).toInt) (fun r34 M44 hG36 F35 p_37 p_38 p_39 p_40 p_41 p_42 p_43 => ?_)
        have F45 := FR.c F0 F35 tg_168
        have b_46 := g_b hG36 (a := 77) (i := 10) (lo := 0) (hi := 500) rfl rfl
        rcases (show r34.toInt = 0 ∨ r34.toInt = 1 by omega) with h47 | h47
        · skip
          have p_48 := p_41 (by omega)
          have p_49 := p_42 (by omega)
          clear p_40 p_41 p_42 p_43
          have z_50 := g8.trans (w1_x (by omega) (by omega) (by omega) (by omega))
          refine s_r1 (pc := 165) rw_213_165 (A := r34.toInt) rfl (by omega) ?_
          exact h r34 M44 hG36 F45 (by omega) (by omega) (fun z => by exfalso; omega) (fun r i z z2 => (F_n F35 (show ¬ (r = 77 ∧ (i = 4 ∨ i = 5 ∨ 7 ≤ i ∧ i ≤ 10)) by omega) (g7 r i z z2))) (fun z => by exfalso; omega) (fun _ => winl (by omega) (by omega) z_50)
        · skip
          have p_51 := p_40 (by omega)
          have p_52 := p_43 (by omega)
          clear p_40 p_41 p_42 p_43
          have z_53 := g8.trans (w1_s (by omega) (by omega) (by omega))
          refine s_r1 (pc := 165) rw_213_165 (A := r34.toInt) rfl (by omega) ?_
          exact h r34 M44 hG36 F45 (by omega) (by omega) (fun _ => p_39) (fun r i z z2 => (F_n F35 (show ¬ (r = 77 ∧ (i = 4 ∨ i = 5 ∨ 7 ≤ i ∧ i ≤ 10)) by omega) (g7 r i z z2))) (fun _ => z_53.trans (w_v rfl (by omega))) (fun z => by exfalso; omega)
      · refine to_an (pc := 149) rw_213_149 rfl ?_
        refine to_in (pc := 150) rw_213_150 rfl ?_
        refine s_v (pc := 151) rw_213_151 (dp0 hd (by decide)) (ls0 := [.ref 77, .int e, .null, .null]) rfl (Nat.le_of_ble_eq_true rfl) (Nat.le_of_ble_eq_true rfl) rfl (to_rc rfl rfl rfl (g_o hG rfl)) rfl ?_
        refine E_212 hX (dp1 hd (by decide)) hG (by omega) (by omega) g1 (by omega) (by omega) (by omega) g4 g5 g6 (by omega) (e := e) (t := t) (nn := nn) (a := (N.2.1 77 10).toInt) (sg := sg) (fun r54 M63 hG56 F55 p_57 p_58 p_59 p_60 p_61 p_62 => ?_)
        have F64 := FR.c F0 F55 tg_167
        have b_65 := g_b hG56 (a := 77) (i := 10) (lo := 0) (hi := 500) rfl rfl
        rcases (show r54.toInt = 0 ∨ r54.toInt = 1 by omega) with h66 | h66
        · skip
          have p_67 := p_62 (by omega)
          clear p_59 p_60 p_61 p_62
          have z_68 := g8.trans (w1_nx (by omega) (by omega) (by omega) p_67)
          refine b_ine_f (pc := 154) rw_213_154 (A := r54.toInt) rfl (by omega) ?_
          refine to_c (pc := 157) rw_213_157 (x := (0 : Int32)) rfl rfl ?_
          refine s_r1 (pc := 158) rw_213_158 (A := 0) rfl (by decide) ?_
          have k_69 : (0 : Int32).toInt = 0 := rfl
          exact h (0 : Int32) M63 hG56 F64 (by decide) (by decide) (fun z => by exfalso; omega) (fun r i z z2 => (F_n F55 (show ¬ (r = 77 ∧ (i = 4 ∨ i = 5 ∨ 7 ≤ i ∧ i ≤ 10) ∨ r = 106 ∨ r = 107) by omega) (g7 r i z z2))) (fun z => by exfalso; omega) (fun _ => winl (by omega) (by omega) z_68)
        · skip
          have p_70 := p_59 (by omega)
          have p_71 := p_60 (by omega)
          have p_72 := p_61 (by omega)
          clear p_59 p_60 p_61 p_62
          have z_73 := g8.trans (w1_ny (by omega) (by omega) p_72)
          refine b_ine_t (pc := 154) rw_213_154 (A := r54.toInt) rfl (by omega) ?_
          have j_74 := (TR_f (tg_160 F55) g4)
          have j_75 := (W9_f (tg_161 F55) g5)
          have j_76 := (PLk_f (tg_162 F55) g6)
          exact ih M63  hG56 F64 p_71 (by omega) (by omega) j_74 j_75 j_76 (fun r i z z2 => (F_n F55 (show ¬ (r = 77 ∧ (i = 4 ∨ i = 5 ∨ 7 ≤ i ∧ i ≤ 10) ∨ r = 106 ∨ r = 107) by omega) (g7 r i z z2))) z_73 (by omega)
set_option maxRecDepth 4000 in
set_option maxHeartbeats 0 in
theorem E_213 {X : mm_X} {d : Nat} {M : mm_M} {Q : Option Value → mm_M → Prop} {e : Int32} {t : Nat → Int} {nn : Int} {a : Int} {sg : x_S} {n9 : Int} {op : List Int} {A9 : x_A} (hX : g_X X) (hd : 3 ≤ d) (hG : g_G M) (q1 : 0 ≤ e.toInt) (q2 : e.toInt ≤ 39) (q3 : RS M t nn) (q4 : (M.2.1 77 10).toInt = a) (q5 : 0 ≤ nn) (q6 : nn ≤ 500) (q7 : TR M t nn) (q8 : W9 M) (q9 : PLk M sg) (h : ∀ (r : Int32) (M1 : mm_M), g_G M1 → FR md_ps M M1 → (0 ≤ r.toInt) → (r.toInt ≤ 1) → ((r.toInt = 1 → RS M1 t nn)) → (∀ r i : Nat, (102 ≤ r ∧ r ≤ 104) → ¬ i = (e.toInt).toNat → M1.2.1 r i = M.2.1 r i) → ((r.toInt = 1 → x_wps t nn sg a (x_ww t nn sg 1 n9 op A9) = x_ww t nn sg 0 n9 op A9 (M1.2.1 77 10).toInt)) → ((r.toInt = 0 → x_wps t nn sg a (x_ww t nn sg 1 n9 op A9) = Sum.inl ((M1.2.1 77 4).toInt, (M1.2.1 77 5).toInt))) → Q (some (.int r)) M1) : mm_T X d 212 0 [.ref 77, .int e] [] M Q := by
  have F0 : FR md_ps M M := FR.rf
  have b_77 := g_b hG (a := 77) (i := 10) (lo := 0) (hi := 500) rfl rfl
  have b_78 := g_b hG (a := 77) (i := 8) (lo := 0) (hi := 5) rfl rfl
  have z_79 := RS_k q3 (a := a) (by omega)
  have b_80 := g_b hG (a := 77) (i := 6) (lo := 0) (hi := 500) rfl rfl
  have b_81 := g_b hG (a := 77) (i := 7) (lo := 0) (hi := 500) rfl rfl
  have z_82 := RS_b q3 (a := a) (by omega)
  refine to_an (pc := 0) rw_213_0 rfl ?_
  refine s_gR (pc := 1) rw_213_1 hG rfl (v := 102) rfl ?_
  refine to_in (pc := 4) rw_213_4 rfl ?_
  refine to_an (pc := 5) rw_213_5 rfl ?_
  refine s_v (pc := 6) rw_213_6 (dp0 hd (by decide)) (ls0 := [.ref 77, .null, .null]) rfl (Nat.le_of_ble_eq_true rfl) (Nat.le_of_ble_eq_true rfl) rfl (to_rc rfl rfl rfl (g_o hG rfl)) rfl ?_
  refine E_211 hX (dp1 hd (by decide)) hG q3 (by omega) (t := t) (nn := nn) (a := a) (fun r83 M90 hG85 F84 p_86 p_87 p_88 p_89 => ?_)
  have F91 := FR.c F0 F84 tg_169
  refine s_ias (pc := 9) rw_213_9 hG85 rfl (n := 40) rfl (A := e.toInt) rfl (by omega) (by omega) (fun M93 W92 => ?_)
  have hG94 := g_w hG85 W92 (A := r83.toInt) rfl (lo := -1) (hi := 99) rfl rfl (by omega) (by decide)
  have F95 := FR.w F91 W92 (show 102 = 77 ∧ ((e.toInt).toNat = 4 ∨ (e.toInt).toNat = 5 ∨ 7 ≤ (e.toInt).toNat ∧ (e.toInt).toNat ≤ 10) ∨ 102 ≤ 102 ∧ 102 ≤ 104 ∨ 102 = 106 ∨ 102 = 107 by omega)
  refine to_an (pc := 10) rw_213_10 rfl ?_
  refine s_gR (pc := 11) rw_213_11 hG94 rfl (v := 102) rfl ?_
  refine to_in (pc := 14) rw_213_14 rfl ?_
  refine s_ialk (pc := 15) rw_213_15 hG94 rfl (n := 40) rfl rfl (A := e.toInt) rfl (by omega) (by omega) (v := r83) (W_e W92) ?_
  refine b_ige (pc := 16) rw_213_16 (A := r83.toInt) rfl (fun h98 => ?_) (fun h98 => ?_)
  · refine to_an (pc := 21) rw_213_21 rfl ?_
    refine s_v (pc := 22) rw_213_22 (dp0 hd (by decide)) (ls0 := [.ref 77]) rfl (Nat.le_of_ble_eq_true rfl) (Nat.le_of_ble_eq_true rfl) rfl (to_rc rfl rfl rfl (g_o hG94 rfl)) rfl ?_
    have c_99 : M93.2.1 77 7 = (M.2.1 77 7) := (W_n W92 (fun z => absurd z.1 (by decide)) (F_n F84 (show ¬ (77 = 77 ∧ (7 = 4 ∨ 7 = 5)) by decide) rfl))
    have t_100 : (M93.2.1 77 7).toInt = (M.2.1 77 7).toInt := congrArg Int32.toInt c_99
    have c_101 : M93.2.1 77 6 = (M.2.1 77 6) := (W_n W92 (fun z => absurd z.1 (by decide)) (F_n F84 (show ¬ (77 = 77 ∧ (6 = 4 ∨ 6 = 5)) by decide) rfl))
    have t_102 : (M93.2.1 77 6).toInt = (M.2.1 77 6).toInt := congrArg Int32.toInt c_101
    have c_103 : M93.2.1 77 10 = (M.2.1 77 10) := (W_n W92 (fun z => absurd z.1 (by decide)) (F_n F84 (show ¬ (77 = 77 ∧ (10 = 4 ∨ 10 = 5)) by decide) rfl))
    have t_104 : (M93.2.1 77 10).toInt = (M.2.1 77 10).toInt := congrArg Int32.toInt c_103
    have j_105 := (RS_f (fun a i z => W_n W92 (tg_171 a i _ z) rfl) (RS_f (tg_41 F84) q3))
    have z_106 := RS_b j_105 (a := a) (by omega)
    have j_107 := (TR_f (fun a i z => W_n W92 (tg_172 a i _ z) rfl) (TR_f (tg_42 F84) q7))
    have j_108 := (W9_f (fun a i z => W_n W92 (tg_173 a i _ z) rfl) (W9_f (tg_44 F84) q8))
    refine E_156 hX (dp1 hd (by decide)) hG94 (by omega) (by omega) (by omega) (by omega) j_107 j_108  (fun M115 hG110 F109 p_111 p_112 p_113 p_114 => ?_)
    have F116 := FR.c F95 F109 tg_170
    have b_117 := g_b hG110 (a := 77) (i := 7) (lo := 0) (hi := 500) rfl rfl
    have c_118 : M115.2.1 77 6 = (M.2.1 77 6) := (F_n F109 (show ¬ (77 = 77 ∧ 7 ≤ 6 ∧ 6 ≤ 10) by decide) c_101)
    have t_119 : (M115.2.1 77 6).toInt = (M.2.1 77 6).toInt := congrArg Int32.toInt c_118
    have b_120 := g_b hG110 (a := 77) (i := 8) (lo := 0) (hi := 5) rfl rfl
    have z_121 : x_wps t nn sg a (x_ww t nn sg 1 n9 op A9) = x_wy2 t nn 8 (x_ns t nn a) (fun c => x_wp t nn c (fun d => x_wp t nn d (fun e => x_wy2 t nn 9 e (fun g => x_wnd t nn sg g (x_ww t nn sg 1 n9 op A9))))) := p_wp (by omega)
    have b_122 := g_b hG110 (a := 77) (i := 10) (lo := 0) (hi := 500) rfl rfl
    have z_123 := RS_s p_114.2 (a := a) (by omega)
    have z_124 := x_ns_b (t := t) (n := nn) (a := a) (by omega) (by omega)
    refine to_an (pc := 25) rw_213_25 rfl ?_
    refine to_c (pc := 26) rw_213_26 (x := (8 : Int32)) rfl rfl ?_
    refine s_v (pc := 28) rw_213_28 (dp0 hd (by decide)) (ls0 := [.ref 77, .int (8 : Int32)]) rfl (Nat.le_of_ble_eq_true rfl) (Nat.le_of_ble_eq_true rfl) rfl (to_rc rfl rfl rfl (g_o hG110 rfl)) rfl ?_
    have k_125 : (8 : Int32).toInt = 8 := rfl
    have j_126 := (TR_f (tg_47 F109) j_107)
    have j_127 := (W9_f (tg_48 F109) j_108)
    refine E_161 hX (dp1 hd (by decide)) hG110 p_114.1 (by omega) (by omega) (by omega) j_126 j_127 (by omega) (by omega) (c := (8 : Int32)) (t := t) (nn := nn) (a := (x_ns t nn a)) (fun r128 M137 hG130 F129 p_131 p_132 p_133 p_134 p_135 p_136 => ?_)
    have F138 := FR.c F116 F129 tg_168
    have b_139 := g_b hG130 (a := 77) (i := 10) (lo := 0) (hi := 500) rfl rfl
    rcases (show r128.toInt = 0 ∨ r128.toInt = 1 by omega) with h140 | h140
    · skip
      have p_141 := p_135 (by omega)
      have p_142 := p_136 (by omega)
      clear p_134 p_135 p_136
      have z_143 : x_wps t nn sg a (x_ww t nn sg 1 n9 op A9) = Sum.inl (1, (x_ns t nn a)) := z_121.trans (p_wyx (by omega))
      refine b_ine_f (pc := 31) rw_213_31 (A := r128.toInt) rfl (by omega) ?_
      refine to_c (pc := 34) rw_213_34 (x := (0 : Int32)) rfl rfl ?_
      refine s_r1 (pc := 35) rw_213_35 (A := 0) rfl (by decide) ?_
      have k_144 : (0 : Int32).toInt = 0 := rfl
      exact h (0 : Int32) M137 hG130 F138 (by decide) (by decide) (fun z => by exfalso; omega) (fun r i z z2 => (F_n F129 (show ¬ (r = 77 ∧ (i = 4 ∨ i = 5 ∨ 7 ≤ i ∧ i ≤ 10)) by omega) (F_n F109 (show ¬ (r = 77 ∧ 7 ≤ i ∧ i ≤ 10) by omega) (W_n W92 (by omega) (F_n F84 (show ¬ (r = 77 ∧ (i = 4 ∨ i = 5)) by omega) rfl))))) (fun z => by exfalso; omega) (fun _ => winl (by omega) (by omega) z_143)
    · skip
      have p_145 := p_134 (by omega)
      clear p_134 p_135 p_136
      have z_146 : x_wps t nn sg a (x_ww t nn sg 1 n9 op A9) = x_wp t nn (x_ns t nn (x_ns t nn a)) (fun d => x_wp t nn d (fun e => x_wy2 t nn 9 e (fun g => x_wnd t nn sg g (x_ww t nn sg 1 n9 op A9)))) := z_121.trans (p_wy (by omega))
      have z_147 := x_ns_b (t := t) (n := nn) (a := (x_ns t nn a)) (by omega) (by omega)
      refine b_ine_t (pc := 31) rw_213_31 (A := r128.toInt) rfl (by omega) ?_
      refine to_an (pc := 36) rw_213_36 rfl ?_
      refine s_gR (pc := 37) rw_213_37 hG130 rfl (v := 103) rfl ?_
      refine to_in (pc := 40) rw_213_40 rfl ?_
      refine to_an (pc := 41) rw_213_41 rfl ?_
      refine s_v (pc := 42) rw_213_42 (dp0 hd (by decide)) (ls0 := [.ref 77, .null, .null]) rfl (Nat.le_of_ble_eq_true rfl) (Nat.le_of_ble_eq_true rfl) rfl (to_rc rfl rfl rfl (g_o hG130 rfl)) rfl ?_
      refine E_211 hX (dp1 hd (by decide)) hG130 p_133 (by omega) (t := t) (nn := nn) (a := (x_ns t nn (x_ns t nn a))) (fun r148 M155 hG150 F149 p_151 p_152 p_153 p_154 => ?_)
      have F156 := FR.c F138 F149 tg_169
      refine s_ias (pc := 45) rw_213_45 hG150 rfl (n := 40) rfl (A := e.toInt) rfl (by omega) (by omega) (fun M158 W157 => ?_)
      have hG159 := g_w hG150 W157 (A := r148.toInt) rfl (lo := -1) (hi := 5) rfl rfl (by omega) (by decide)
      have F160 := FR.w F156 W157 (show 103 = 77 ∧ ((e.toInt).toNat = 4 ∨ (e.toInt).toNat = 5 ∨ 7 ≤ (e.toInt).toNat ∧ (e.toInt).toNat ≤ 10) ∨ 102 ≤ 103 ∧ 103 ≤ 104 ∨ 103 = 106 ∨ 103 = 107 by omega)
      refine to_an (pc := 46) rw_213_46 rfl ?_
      refine s_gR (pc := 47) rw_213_47 hG159 rfl (v := 103) rfl ?_
      refine to_in (pc := 50) rw_213_50 rfl ?_
      refine s_ialk (pc := 51) rw_213_51 hG159 rfl (n := 40) rfl rfl (A := e.toInt) rfl (by omega) (by omega) (v := r148) (W_e W157) ?_
      refine b_ige (pc := 52) rw_213_52 (A := r148.toInt) rfl (fun h163 => ?_) (fun h163 => ?_)
      · refine to_an (pc := 57) rw_213_57 rfl ?_
        refine s_v (pc := 58) rw_213_58 (dp0 hd (by decide)) (ls0 := [.ref 77]) rfl (Nat.le_of_ble_eq_true rfl) (Nat.le_of_ble_eq_true rfl) rfl (to_rc rfl rfl rfl (g_o hG159 rfl)) rfl ?_
        have c_164 : M158.2.1 77 7 = (M137.2.1 77 7) := (W_n W157 (fun z => absurd z.1 (by decide)) (F_n F149 (show ¬ (77 = 77 ∧ (7 = 4 ∨ 7 = 5)) by decide) rfl))
        have b_165 := g_b hG130 (a := 77) (i := 7) (lo := 0) (hi := 500) rfl rfl
        have t_166 : (M158.2.1 77 7).toInt = (M137.2.1 77 7).toInt := congrArg Int32.toInt c_164
        have c_167 : M158.2.1 77 6 = (M.2.1 77 6) := (W_n W157 (fun z => absurd z.1 (by decide)) (F_n F149 (show ¬ (77 = 77 ∧ (6 = 4 ∨ 6 = 5)) by decide) (F_n F129 (show ¬ (77 = 77 ∧ (6 = 4 ∨ 6 = 5 ∨ 7 ≤ 6 ∧ 6 ≤ 10)) by decide) c_118)))
        have t_168 : (M158.2.1 77 6).toInt = (M.2.1 77 6).toInt := congrArg Int32.toInt c_167
        have c_169 : M158.2.1 77 10 = (M137.2.1 77 10) := (W_n W157 (fun z => absurd z.1 (by decide)) (F_n F149 (show ¬ (77 = 77 ∧ (10 = 4 ∨ 10 = 5)) by decide) rfl))
        have t_170 : (M158.2.1 77 10).toInt = (M137.2.1 77 10).toInt := congrArg Int32.toInt c_169
        have j_171 := (RS_f (fun a i z => W_n W157 (tg_174 a i _ z) rfl) (RS_f (tg_41 F149) p_133))
        have z_172 := RS_b j_171 (a := (x_ns t nn (x_ns t nn a))) (by omega)
        have j_173 := (TR_f (fun a i z => W_n W157 (tg_175 a i _ z) rfl) (TR_f (tg_42 F149) (TR_f (tg_163 F129) j_126)))
        have j_174 := (W9_f (fun a i z => W_n W157 (tg_176 a i _ z) rfl) (W9_f (tg_44 F149) (W9_f (tg_164 F129) j_127)))
        refine E_156 hX (dp1 hd (by decide)) hG159 (by omega) (by omega) (by omega) (by omega) j_173 j_174  (fun M181 hG176 F175 p_177 p_178 p_179 p_180 => ?_)
        have F182 := FR.c F160 F175 tg_170
        have b_183 := g_b hG176 (a := 77) (i := 7) (lo := 0) (hi := 500) rfl rfl
        have c_184 : M181.2.1 77 6 = (M.2.1 77 6) := (F_n F175 (show ¬ (77 = 77 ∧ 7 ≤ 6 ∧ 6 ≤ 10) by decide) c_167)
        have t_185 : (M181.2.1 77 6).toInt = (M.2.1 77 6).toInt := congrArg Int32.toInt c_184
        have b_186 := g_b hG176 (a := 77) (i := 8) (lo := 0) (hi := 5) rfl rfl
        have z_187 : x_wps t nn sg a (x_ww t nn sg 1 n9 op A9) = x_wp t nn (x_ns t nn (x_ns t nn (x_ns t nn a))) (fun e => x_wy2 t nn 9 e (fun g => x_wnd t nn sg g (x_ww t nn sg 1 n9 op A9))) := z_146.trans (p_wp (by omega))
        have b_188 := g_b hG176 (a := 77) (i := 10) (lo := 0) (hi := 500) rfl rfl
        have z_189 := RS_s p_180.2 (a := (x_ns t nn (x_ns t nn a))) (by omega)
        have z_190 := x_ns_b (t := t) (n := nn) (a := (x_ns t nn (x_ns t nn a))) (by omega) (by omega)
        refine to_an (pc := 61) rw_213_61 rfl ?_
        refine s_gR (pc := 62) rw_213_62 hG176 rfl (v := 104) rfl ?_
        refine to_in (pc := 65) rw_213_65 rfl ?_
        refine to_an (pc := 66) rw_213_66 rfl ?_
        refine s_v (pc := 67) rw_213_67 (dp0 hd (by decide)) (ls0 := [.ref 77, .null, .null]) rfl (Nat.le_of_ble_eq_true rfl) (Nat.le_of_ble_eq_true rfl) rfl (to_rc rfl rfl rfl (g_o hG176 rfl)) rfl ?_
        refine E_211 hX (dp1 hd (by decide)) hG176 p_180.1 (by omega) (t := t) (nn := nn) (a := (x_ns t nn (x_ns t nn (x_ns t nn a)))) (fun r191 M198 hG193 F192 p_194 p_195 p_196 p_197 => ?_)
        have F199 := FR.c F182 F192 tg_169
        refine s_ias (pc := 70) rw_213_70 hG193 rfl (n := 40) rfl (A := e.toInt) rfl (by omega) (by omega) (fun M201 W200 => ?_)
        have hG202 := g_w hG193 W200 (A := r191.toInt) rfl (lo := -1) (hi := 5) rfl rfl (by omega) (by decide)
        have F203 := FR.w F199 W200 (show 104 = 77 ∧ ((e.toInt).toNat = 4 ∨ (e.toInt).toNat = 5 ∨ 7 ≤ (e.toInt).toNat ∧ (e.toInt).toNat ≤ 10) ∨ 102 ≤ 104 ∧ 104 ≤ 104 ∨ 104 = 106 ∨ 104 = 107 by omega)
        refine to_an (pc := 71) rw_213_71 rfl ?_
        refine s_gR (pc := 72) rw_213_72 hG202 rfl (v := 104) rfl ?_
        refine to_in (pc := 75) rw_213_75 rfl ?_
        refine s_ialk (pc := 76) rw_213_76 hG202 rfl (n := 40) rfl rfl (A := e.toInt) rfl (by omega) (by omega) (v := r191) (W_e W200) ?_
        refine b_ige (pc := 77) rw_213_77 (A := r191.toInt) rfl (fun h206 => ?_) (fun h206 => ?_)
        · refine to_an (pc := 82) rw_213_82 rfl ?_
          refine s_v (pc := 83) rw_213_83 (dp0 hd (by decide)) (ls0 := [.ref 77]) rfl (Nat.le_of_ble_eq_true rfl) (Nat.le_of_ble_eq_true rfl) rfl (to_rc rfl rfl rfl (g_o hG202 rfl)) rfl ?_
          have c_207 : M201.2.1 77 7 = (M181.2.1 77 7) := (W_n W200 (fun z => absurd z.1 (by decide)) (F_n F192 (show ¬ (77 = 77 ∧ (7 = 4 ∨ 7 = 5)) by decide) rfl))
          have t_208 : (M201.2.1 77 7).toInt = (M181.2.1 77 7).toInt := congrArg Int32.toInt c_207
          have c_209 : M201.2.1 77 6 = (M.2.1 77 6) := (W_n W200 (fun z => absurd z.1 (by decide)) (F_n F192 (show ¬ (77 = 77 ∧ (6 = 4 ∨ 6 = 5)) by decide) c_184))
          have t_210 : (M201.2.1 77 6).toInt = (M.2.1 77 6).toInt := congrArg Int32.toInt c_209
          have c_211 : M201.2.1 77 10 = (M181.2.1 77 10) := (W_n W200 (fun z => absurd z.1 (by decide)) (F_n F192 (show ¬ (77 = 77 ∧ (10 = 4 ∨ 10 = 5)) by decide) rfl))
          have t_212 : (M201.2.1 77 10).toInt = (M181.2.1 77 10).toInt := congrArg Int32.toInt c_211
          have j_213 := (RS_f (fun a i z => W_n W200 (tg_177 a i _ z) rfl) (RS_f (tg_41 F192) p_180.1))
          have z_214 := RS_b j_213 (a := (x_ns t nn (x_ns t nn (x_ns t nn a)))) (by omega)
          have j_215 := (TR_f (fun a i z => W_n W200 (tg_178 a i _ z) rfl) (TR_f (tg_42 F192) (TR_f (tg_47 F175) j_173)))
          have j_216 := (W9_f (fun a i z => W_n W200 (tg_179 a i _ z) rfl) (W9_f (tg_44 F192) (W9_f (tg_48 F175) j_174)))
          refine E_156 hX (dp1 hd (by decide)) hG202 (by omega) (by omega) (by omega) (by omega) j_215 j_216  (fun M223 hG218 F217 p_219 p_220 p_221 p_222 => ?_)
          have F224 := FR.c F203 F217 tg_170
          have b_225 := g_b hG218 (a := 77) (i := 7) (lo := 0) (hi := 500) rfl rfl
          have c_226 : M223.2.1 77 6 = (M.2.1 77 6) := (F_n F217 (show ¬ (77 = 77 ∧ 7 ≤ 6 ∧ 6 ≤ 10) by decide) c_209)
          have t_227 : (M223.2.1 77 6).toInt = (M.2.1 77 6).toInt := congrArg Int32.toInt c_226
          have b_228 := g_b hG218 (a := 77) (i := 8) (lo := 0) (hi := 5) rfl rfl
          have z_229 : x_wps t nn sg a (x_ww t nn sg 1 n9 op A9) = x_wy2 t nn 9 (x_ns t nn (x_ns t nn (x_ns t nn (x_ns t nn a)))) (fun g => x_wnd t nn sg g (x_ww t nn sg 1 n9 op A9)) := z_187.trans (p_wp (by omega))
          have b_230 := g_b hG218 (a := 77) (i := 10) (lo := 0) (hi := 500) rfl rfl
          have z_231 := RS_s p_222.2 (a := (x_ns t nn (x_ns t nn (x_ns t nn a)))) (by omega)
          have z_232 := x_ns_b (t := t) (n := nn) (a := (x_ns t nn (x_ns t nn (x_ns t nn a)))) (by omega) (by omega)
          refine to_an (pc := 86) rw_213_86 rfl ?_
          refine to_c (pc := 87) rw_213_87 (x := (9 : Int32)) rfl rfl ?_
          refine s_v (pc := 89) rw_213_89 (dp0 hd (by decide)) (ls0 := [.ref 77, .int (9 : Int32)]) rfl (Nat.le_of_ble_eq_true rfl) (Nat.le_of_ble_eq_true rfl) rfl (to_rc rfl rfl rfl (g_o hG218 rfl)) rfl ?_
          have k_233 : (9 : Int32).toInt = 9 := rfl
          have j_234 := (TR_f (tg_47 F217) j_215)
          have j_235 := (W9_f (tg_48 F217) j_216)
          refine E_161 hX (dp1 hd (by decide)) hG218 p_222.1 (by omega) (by omega) (by omega) j_234 j_235 (by omega) (by omega) (c := (9 : Int32)) (t := t) (nn := nn) (a := (x_ns t nn (x_ns t nn (x_ns t nn (x_ns t nn a))))) (fun r236 M245 hG238 F237 p_239 p_240 p_241 p_242 p_243 p_244 => ?_)
          have F246 := FR.c F224 F237 tg_168
          have b_247 := g_b hG238 (a := 77) (i := 10) (lo := 0) (hi := 500) rfl rfl
          rcases (show r236.toInt = 0 ∨ r236.toInt = 1 by omega) with h248 | h248
          · skip
            have p_249 := p_243 (by omega)
            have p_250 := p_244 (by omega)
            clear p_242 p_243 p_244
            have z_251 : x_wps t nn sg a (x_ww t nn sg 1 n9 op A9) = Sum.inl (1, (x_ns t nn (x_ns t nn (x_ns t nn (x_ns t nn a))))) := z_229.trans (p_wyx (by omega))
            refine b_ine_f (pc := 92) rw_213_92 (A := r236.toInt) rfl (by omega) ?_
            refine to_c (pc := 95) rw_213_95 (x := (0 : Int32)) rfl rfl ?_
            refine s_r1 (pc := 96) rw_213_96 (A := 0) rfl (by decide) ?_
            have k_252 : (0 : Int32).toInt = 0 := rfl
            exact h (0 : Int32) M245 hG238 F246 (by decide) (by decide) (fun z => by exfalso; omega) (fun r i z z2 => (F_n F237 (show ¬ (r = 77 ∧ (i = 4 ∨ i = 5 ∨ 7 ≤ i ∧ i ≤ 10)) by omega) (F_n F217 (show ¬ (r = 77 ∧ 7 ≤ i ∧ i ≤ 10) by omega) (W_n W200 (by omega) (F_n F192 (show ¬ (r = 77 ∧ (i = 4 ∨ i = 5)) by omega) (F_n F175 (show ¬ (r = 77 ∧ 7 ≤ i ∧ i ≤ 10) by omega) (W_n W157 (by omega) (F_n F149 (show ¬ (r = 77 ∧ (i = 4 ∨ i = 5)) by omega) (F_n F129 (show ¬ (r = 77 ∧ (i = 4 ∨ i = 5 ∨ 7 ≤ i ∧ i ≤ 10)) by omega) (F_n F109 (show ¬ (r = 77 ∧ 7 ≤ i ∧ i ≤ 10) by omega) (W_n W92 (by omega) (F_n F84 (show ¬ (r = 77 ∧ (i = 4 ∨ i = 5)) by omega) rfl)))))))))))) (fun z => by exfalso; omega) (fun _ => winl (by omega) (by omega) z_251)
          · skip
            have p_253 := p_242 (by omega)
            clear p_242 p_243 p_244
            have z_254 : x_wps t nn sg a (x_ww t nn sg 1 n9 op A9) = x_wnd t nn sg (x_ns t nn (x_ns t nn (x_ns t nn (x_ns t nn (x_ns t nn a))))) (x_ww t nn sg 1 n9 op A9) := z_229.trans (p_wy (by omega))
            have z_255 := x_ns_b (t := t) (n := nn) (a := (x_ns t nn (x_ns t nn (x_ns t nn (x_ns t nn a))))) (by omega) (by omega)
            refine b_ine_t (pc := 92) rw_213_92 (A := r236.toInt) rfl (by omega) ?_
            have b_256 := g_b hG238 (a := 77) (i := 8) (lo := 0) (hi := 5) rfl rfl
            have z_257 := RS_k p_241 (a := (x_ns t nn (x_ns t nn (x_ns t nn (x_ns t nn (x_ns t nn a)))))) (by omega)
            refine to_an (pc := 97) rw_213_97 rfl ?_
            refine tt_gI (pc := 98) rw_213_98 (g_o hG238 rfl) (v := (M245.2.1 77 8)) rfl ?_
            refine to_c (pc := 101) rw_213_101 (x := (3 : Int32)) rfl rfl ?_
            refine b_ceq (pc := 102) rw_213_102 (A := (M245.2.1 77 8).toInt) (B := 3) rfl rfl (fun h258 => ?_) (fun h258 => ?_)
            · refine to_an (pc := 119) rw_213_119 rfl ?_
              refine s_gR (pc := 120) rw_213_120 hG238 rfl (v := 106) rfl ?_
              refine to_in (pc := 123) rw_213_123 rfl ?_
              refine to_cl (pc := 124) rw_213_124 rfl (x := (0 : Int64)) rfl ?_
              refine s_las (pc := 125) rw_213_125 hG238 rfl (n := 40) rfl (A := e.toInt) rfl (by omega) (by omega) (fun M260 W259 => ?_)
              have hG261 := g_wl hG238 W259
              have F262 := FR.wl F246 W259 (show 106 = 77 ∧ ((e.toInt).toNat = 4 ∨ (e.toInt).toNat = 5 ∨ 7 ≤ (e.toInt).toNat ∧ (e.toInt).toNat ≤ 10) ∨ 102 ≤ 106 ∧ 106 ≤ 104 ∨ 106 = 106 ∨ 106 = 107 by omega)
              refine to_an (pc := 126) rw_213_126 rfl ?_
              refine s_gR (pc := 127) rw_213_127 hG261 rfl (v := 107) rfl ?_
              refine to_in (pc := 130) rw_213_130 rfl ?_
              refine to_c (pc := 131) rw_213_131 (x := (0 : Int32)) rfl rfl ?_
              refine s_ias (pc := 132) rw_213_132 hG261 rfl (n := 40) rfl (A := e.toInt) rfl (by omega) (by omega) (fun M264 W263 => ?_)
              have hG265 := g_wf hG261 W263 rfl rfl (by decide)
              have F266 := FR.w F262 W263 (show 107 = 77 ∧ ((e.toInt).toNat = 4 ∨ (e.toInt).toNat = 5 ∨ 7 ≤ (e.toInt).toNat ∧ (e.toInt).toNat ≤ 10) ∨ 102 ≤ 107 ∧ 107 ≤ 104 ∨ 107 = 106 ∨ 107 = 107 by omega)
              have j_267 := (RS_f (fun a i z => W_n W263 (tg_159 a i _ z) rfl) (RS_f (fun a i z => W_l W259 rfl) p_241))
              have j_268 := (TR_f (fun a i z => W_n W263 (tg_180 a i _ z) rfl) (TR_f (fun a i z => W_l W259 rfl) (TR_f (tg_163 F237) j_234)))
              have j_269 := (W9_f (fun a i z => W_n W263 (tg_181 a i _ z) rfl) (W9_f (fun a i z => W_l W259 rfl) (W9_f (tg_164 F237) j_235)))
              have j_270 := (PLk_f (fun a i z => W_n W263 (tg_182 a i _ z) rfl) (PLk_f (fun a i z => W_l W259 rfl) (PLk_f (tg_165 F237) (PLk_f (tg_156 F217) (PLk_f (fun a i z => W_n W200 (tg_183 a i _ z) rfl) (PLk_f (tg_166 F192) (PLk_f (tg_156 F175) (PLk_f (fun a i z => W_n W157 (tg_184 a i _ z) rfl) (PLk_f (tg_166 F149) (PLk_f (tg_165 F129) (PLk_f (tg_156 F109) (PLk_f (fun a i z => W_n W92 (tg_185 a i _ z) rfl) (PLk_f (tg_166 F84) q9)))))))))))))
              have c_271 : M264.2.1 77 10 = (M245.2.1 77 10) := (W_n W263 (fun z => absurd z.1 (by decide)) (W_l W259 rfl))
              have t_272 : (M264.2.1 77 10).toInt = (M245.2.1 77 10).toInt := congrArg Int32.toInt c_271
              exact (U_213_0 (e := e) (t := t) (nn := nn) (a := a) (sg := sg) (n9 := n9) (op := op) (A9 := A9) hX hd q1 q2 q3 q4 q5 q6 q7 q8 q9 h ((501 - (M264.2.1 77 10).toInt).toNat + 1)) M264  hG265 F266 j_267 (by omega) (by omega) j_268 j_269 j_270 (fun r i z z2 => (W_n W263 (by omega) (W_l W259 (F_n F237 (show ¬ (r = 77 ∧ (i = 4 ∨ i = 5 ∨ 7 ≤ i ∧ i ≤ 10)) by omega) (F_n F217 (show ¬ (r = 77 ∧ 7 ≤ i ∧ i ≤ 10) by omega) (W_n W200 (by omega) (F_n F192 (show ¬ (r = 77 ∧ (i = 4 ∨ i = 5)) by omega) (F_n F175 (show ¬ (r = 77 ∧ 7 ≤ i ∧ i ≤ 10) by omega) (W_n W157 (by omega) (F_n F149 (show ¬ (r = 77 ∧ (i = 4 ∨ i = 5)) by omega) (F_n F129 (show ¬ (r = 77 ∧ (i = 4 ∨ i = 5 ∨ 7 ≤ i ∧ i ≤ 10)) by omega) (F_n F109 (show ¬ (r = 77 ∧ 7 ≤ i ∧ i ≤ 10) by omega) (W_n W92 (by omega) (F_n F84 (show ¬ (r = 77 ∧ (i = 4 ∨ i = 5)) by omega) rfl)))))))))))))) ((z_254.trans (w1_n (n := n9) (op := op) (A := A9) (by omega) (by omega) (by omega)).symm).trans (w_v rfl (by omega))) (by omega)
            · refine to_an (pc := 105) rw_213_105 rfl ?_
              refine tt_gI (pc := 106) rw_213_106 (g_o hG238 rfl) (v := (M245.2.1 77 8)) rfl ?_
              refine to_c (pc := 109) rw_213_109 (x := (2 : Int32)) rfl rfl ?_
              refine b_ceq (pc := 110) rw_213_110 (A := (M245.2.1 77 8).toInt) (B := 2) rfl rfl (fun h273 => ?_) (fun h273 => ?_)
              · refine to_an (pc := 119) rw_213_119 rfl ?_
                refine s_gR (pc := 120) rw_213_120 hG238 rfl (v := 106) rfl ?_
                refine to_in (pc := 123) rw_213_123 rfl ?_
                refine to_cl (pc := 124) rw_213_124 rfl (x := (0 : Int64)) rfl ?_
                refine s_las (pc := 125) rw_213_125 hG238 rfl (n := 40) rfl (A := e.toInt) rfl (by omega) (by omega) (fun M275 W274 => ?_)
                have hG276 := g_wl hG238 W274
                have F277 := FR.wl F246 W274 (show 106 = 77 ∧ ((e.toInt).toNat = 4 ∨ (e.toInt).toNat = 5 ∨ 7 ≤ (e.toInt).toNat ∧ (e.toInt).toNat ≤ 10) ∨ 102 ≤ 106 ∧ 106 ≤ 104 ∨ 106 = 106 ∨ 106 = 107 by omega)
                refine to_an (pc := 126) rw_213_126 rfl ?_
                refine s_gR (pc := 127) rw_213_127 hG276 rfl (v := 107) rfl ?_
                refine to_in (pc := 130) rw_213_130 rfl ?_
                refine to_c (pc := 131) rw_213_131 (x := (0 : Int32)) rfl rfl ?_
                refine s_ias (pc := 132) rw_213_132 hG276 rfl (n := 40) rfl (A := e.toInt) rfl (by omega) (by omega) (fun M279 W278 => ?_)
                have hG280 := g_wf hG276 W278 rfl rfl (by decide)
                have F281 := FR.w F277 W278 (show 107 = 77 ∧ ((e.toInt).toNat = 4 ∨ (e.toInt).toNat = 5 ∨ 7 ≤ (e.toInt).toNat ∧ (e.toInt).toNat ≤ 10) ∨ 102 ≤ 107 ∧ 107 ≤ 104 ∨ 107 = 106 ∨ 107 = 107 by omega)
                have j_282 := (RS_f (fun a i z => W_n W278 (tg_159 a i _ z) rfl) (RS_f (fun a i z => W_l W274 rfl) p_241))
                have j_283 := (TR_f (fun a i z => W_n W278 (tg_180 a i _ z) rfl) (TR_f (fun a i z => W_l W274 rfl) (TR_f (tg_163 F237) j_234)))
                have j_284 := (W9_f (fun a i z => W_n W278 (tg_181 a i _ z) rfl) (W9_f (fun a i z => W_l W274 rfl) (W9_f (tg_164 F237) j_235)))
                have j_285 := (PLk_f (fun a i z => W_n W278 (tg_182 a i _ z) rfl) (PLk_f (fun a i z => W_l W274 rfl) (PLk_f (tg_165 F237) (PLk_f (tg_156 F217) (PLk_f (fun a i z => W_n W200 (tg_183 a i _ z) rfl) (PLk_f (tg_166 F192) (PLk_f (tg_156 F175) (PLk_f (fun a i z => W_n W157 (tg_184 a i _ z) rfl) (PLk_f (tg_166 F149) (PLk_f (tg_165 F129) (PLk_f (tg_156 F109) (PLk_f (fun a i z => W_n W92 (tg_185 a i _ z) rfl) (PLk_f (tg_166 F84) q9)))))))))))))
                have c_286 : M279.2.1 77 10 = (M245.2.1 77 10) := (W_n W278 (fun z => absurd z.1 (by decide)) (W_l W274 rfl))
                have t_287 : (M279.2.1 77 10).toInt = (M245.2.1 77 10).toInt := congrArg Int32.toInt c_286
                exact (U_213_0 (e := e) (t := t) (nn := nn) (a := a) (sg := sg) (n9 := n9) (op := op) (A9 := A9) hX hd q1 q2 q3 q4 q5 q6 q7 q8 q9 h ((501 - (M279.2.1 77 10).toInt).toNat + 1)) M279  hG280 F281 j_282 (by omega) (by omega) j_283 j_284 j_285 (fun r i z z2 => (W_n W278 (by omega) (W_l W274 (F_n F237 (show ¬ (r = 77 ∧ (i = 4 ∨ i = 5 ∨ 7 ≤ i ∧ i ≤ 10)) by omega) (F_n F217 (show ¬ (r = 77 ∧ 7 ≤ i ∧ i ≤ 10) by omega) (W_n W200 (by omega) (F_n F192 (show ¬ (r = 77 ∧ (i = 4 ∨ i = 5)) by omega) (F_n F175 (show ¬ (r = 77 ∧ 7 ≤ i ∧ i ≤ 10) by omega) (W_n W157 (by omega) (F_n F149 (show ¬ (r = 77 ∧ (i = 4 ∨ i = 5)) by omega) (F_n F129 (show ¬ (r = 77 ∧ (i = 4 ∨ i = 5 ∨ 7 ≤ i ∧ i ≤ 10)) by omega) (F_n F109 (show ¬ (r = 77 ∧ 7 ≤ i ∧ i ≤ 10) by omega) (W_n W92 (by omega) (F_n F84 (show ¬ (r = 77 ∧ (i = 4 ∨ i = 5)) by omega) rfl)))))))))))))) ((z_254.trans (w1_n (n := n9) (op := op) (A := A9) (by omega) (by omega) (by omega)).symm).trans (w_v rfl (by omega))) (by omega)
              · refine to_an (pc := 113) rw_213_113 rfl ?_
                refine to_c (pc := 114) rw_213_114 (x := (1 : Int32)) rfl rfl ?_
                refine s_v (pc := 115) rw_213_115 (dp0 hd (by decide)) (ls0 := [.ref 77, .int (1 : Int32)]) rfl (Nat.le_of_ble_eq_true rfl) (Nat.le_of_ble_eq_true rfl) rfl (to_rc rfl rfl rfl (g_o hG238 rfl)) rfl ?_
                refine to_an (pc := 0) rw_152_0 rfl ?_
                refine to_in (pc := 1) rw_152_1 rfl ?_
                refine s_pI (pc := 2) rw_152_2 hG238 rfl (fun M289 W288 => ?_)
                have hG290 := g_wf hG238 W288 rfl rfl (by decide)
                have F291 := FR.w F246 W288 (show 77 = 77 ∧ (4 = 4 ∨ 4 = 5 ∨ 7 ≤ 4 ∧ 4 ≤ 10) ∨ 102 ≤ 77 ∧ 77 ≤ 104 ∨ 77 = 106 ∨ 77 = 107 by decide)
                refine to_an (pc := 5) rw_152_5 rfl ?_
                refine to_an (pc := 6) rw_152_6 rfl ?_
                have c_292 : M289.2.1 77 10 = (M245.2.1 77 10) := (W_n W288 (by decide) rfl)
                refine tt_gI (pc := 7) rw_152_7 (g_o hG290 rfl) (v := (M245.2.1 77 10)) c_292 ?_
                refine s_pI (pc := 10) rw_152_10 hG290 rfl (fun M294 W293 => ?_)
                have hG295 := g_wf hG290 W293 rfl rfl (by decide)
                have F296 := FR.w F291 W293 (show 77 = 77 ∧ (5 = 4 ∨ 5 = 5 ∨ 7 ≤ 5 ∧ 5 ≤ 10) ∨ 102 ≤ 77 ∧ 77 ≤ 104 ∨ 77 = 106 ∨ 77 = 107 by decide)
                refine to_c (pc := 13) rw_152_13 (x := (0 : Int32)) rfl rfl ?_
                refine s_r1 (pc := 14) rw_152_14 (A := 0) rfl (by decide) ?_
                refine s_r1 (pc := 118) rw_213_118 (A := 0) rfl (by decide) ?_
                have k_297 : (0 : Int32).toInt = 0 := rfl
                have c_298 : M294.2.1 77 4 = (1 : Int32) := (W_n W293 (by decide) (W_e W288))
                have k_299 : (1 : Int32).toInt = 1 := rfl
                have t_300 : (M294.2.1 77 4).toInt = (1 : Int32).toInt := congrArg Int32.toInt c_298
                have c_301 : M294.2.1 77 5 = (M245.2.1 77 10) := (W_e W293)
                have t_302 : (M294.2.1 77 5).toInt = (M245.2.1 77 10).toInt := congrArg Int32.toInt c_301
                have z_303 : x_wps t nn sg a (x_ww t nn sg 1 n9 op A9) = Sum.inl (1, (x_ns t nn (x_ns t nn (x_ns t nn (x_ns t nn (x_ns t nn a)))))) := z_254.trans ((p_ndn (by omega)).trans (p_nb1 (by omega)))
                exact h (0 : Int32) M294 hG295 F296 (by decide) (by decide) (fun z => by exfalso; omega) (fun r i z z2 => (W_n W293 (by omega) (W_n W288 (by omega) (F_n F237 (show ¬ (r = 77 ∧ (i = 4 ∨ i = 5 ∨ 7 ≤ i ∧ i ≤ 10)) by omega) (F_n F217 (show ¬ (r = 77 ∧ 7 ≤ i ∧ i ≤ 10) by omega) (W_n W200 (by omega) (F_n F192 (show ¬ (r = 77 ∧ (i = 4 ∨ i = 5)) by omega) (F_n F175 (show ¬ (r = 77 ∧ 7 ≤ i ∧ i ≤ 10) by omega) (W_n W157 (by omega) (F_n F149 (show ¬ (r = 77 ∧ (i = 4 ∨ i = 5)) by omega) (F_n F129 (show ¬ (r = 77 ∧ (i = 4 ∨ i = 5 ∨ 7 ≤ i ∧ i ≤ 10)) by omega) (F_n F109 (show ¬ (r = 77 ∧ 7 ≤ i ∧ i ≤ 10) by omega) (W_n W92 (by omega) (F_n F84 (show ¬ (r = 77 ∧ (i = 4 ∨ i = 5)) by omega) rfl)))))))))))))) (fun z => by exfalso; omega) (fun _ => winl (by omega) (by omega) z_303)
        · refine to_c (pc := 80) rw_213_80 (x := (0 : Int32)) rfl rfl ?_
          refine s_r1 (pc := 81) rw_213_81 (A := 0) rfl (by decide) ?_
          have k_304 : (0 : Int32).toInt = 0 := rfl
          have c_305 : M201.2.1 77 4 = (M198.2.1 77 4) := (W_n W200 (fun z => absurd z.1 (by decide)) rfl)
          have t_306 : (M201.2.1 77 4).toInt = (M198.2.1 77 4).toInt := congrArg Int32.toInt c_305
          have c_307 : M201.2.1 77 5 = (M198.2.1 77 5) := (W_n W200 (fun z => absurd z.1 (by decide)) rfl)
          have t_308 : (M201.2.1 77 5).toInt = (M198.2.1 77 5).toInt := congrArg Int32.toInt c_307
          have z_309 : x_wps t nn sg a (x_ww t nn sg 1 n9 op A9) = Sum.inl (1, (x_ns t nn (x_ns t nn (x_ns t nn a)))) := z_187.trans (p_wpx (by omega))
          exact h (0 : Int32) M201 hG202 F203 (by decide) (by decide) (fun z => by exfalso; omega) (fun r i z z2 => (W_n W200 (by omega) (F_n F192 (show ¬ (r = 77 ∧ (i = 4 ∨ i = 5)) by omega) (F_n F175 (show ¬ (r = 77 ∧ 7 ≤ i ∧ i ≤ 10) by omega) (W_n W157 (by omega) (F_n F149 (show ¬ (r = 77 ∧ (i = 4 ∨ i = 5)) by omega) (F_n F129 (show ¬ (r = 77 ∧ (i = 4 ∨ i = 5 ∨ 7 ≤ i ∧ i ≤ 10)) by omega) (F_n F109 (show ¬ (r = 77 ∧ 7 ≤ i ∧ i ≤ 10) by omega) (W_n W92 (by omega) (F_n F84 (show ¬ (r = 77 ∧ (i = 4 ∨ i = 5)) by omega) rfl)))))))))) (fun z => by exfalso; omega) (fun _ => winl (by omega) (by omega) z_309)
      · refine to_c (pc := 55) rw_213_55 (x := (0 : Int32)) rfl rfl ?_
        refine s_r1 (pc := 56) rw_213_56 (A := 0) rfl (by decide) ?_
        have k_310 : (0 : Int32).toInt = 0 := rfl
        have c_311 : M158.2.1 77 4 = (M155.2.1 77 4) := (W_n W157 (fun z => absurd z.1 (by decide)) rfl)
        have t_312 : (M158.2.1 77 4).toInt = (M155.2.1 77 4).toInt := congrArg Int32.toInt c_311
        have c_313 : M158.2.1 77 5 = (M155.2.1 77 5) := (W_n W157 (fun z => absurd z.1 (by decide)) rfl)
        have t_314 : (M158.2.1 77 5).toInt = (M155.2.1 77 5).toInt := congrArg Int32.toInt c_313
        have z_315 : x_wps t nn sg a (x_ww t nn sg 1 n9 op A9) = Sum.inl (1, (x_ns t nn (x_ns t nn a))) := z_146.trans (p_wpx (by omega))
        exact h (0 : Int32) M158 hG159 F160 (by decide) (by decide) (fun z => by exfalso; omega) (fun r i z z2 => (W_n W157 (by omega) (F_n F149 (show ¬ (r = 77 ∧ (i = 4 ∨ i = 5)) by omega) (F_n F129 (show ¬ (r = 77 ∧ (i = 4 ∨ i = 5 ∨ 7 ≤ i ∧ i ≤ 10)) by omega) (F_n F109 (show ¬ (r = 77 ∧ 7 ≤ i ∧ i ≤ 10) by omega) (W_n W92 (by omega) (F_n F84 (show ¬ (r = 77 ∧ (i = 4 ∨ i = 5)) by omega) rfl))))))) (fun z => by exfalso; omega) (fun _ => winl (by omega) (by omega) z_315)
  · refine to_c (pc := 19) rw_213_19 (x := (0 : Int32)) rfl rfl ?_
    refine s_r1 (pc := 20) rw_213_20 (A := 0) rfl (by decide) ?_
    have k_316 : (0 : Int32).toInt = 0 := rfl
    have c_317 : M93.2.1 77 4 = (M90.2.1 77 4) := (W_n W92 (fun z => absurd z.1 (by decide)) rfl)
    have t_318 : (M93.2.1 77 4).toInt = (M90.2.1 77 4).toInt := congrArg Int32.toInt c_317
    have c_319 : M93.2.1 77 5 = (M90.2.1 77 5) := (W_n W92 (fun z => absurd z.1 (by decide)) rfl)
    have t_320 : (M93.2.1 77 5).toInt = (M90.2.1 77 5).toInt := congrArg Int32.toInt c_319
    have z_321 : x_wps t nn sg a (x_ww t nn sg 1 n9 op A9) = Sum.inl (1, a) := p_wpx (by omega)
    exact h (0 : Int32) M93 hG94 F95 (by decide) (by decide) (fun z => by exfalso; omega) (fun r i z z2 => (W_n W92 (by omega) (F_n F84 (show ¬ (r = 77 ∧ (i = 4 ∨ i = 5)) by omega) rfl))) (fun z => by exfalso; omega) (fun _ => winl (by omega) (by omega) z_321)
set_option maxRecDepth 4000 in
set_option maxHeartbeats 0 in
theorem E_214 {X : mm_X} {d : Nat} {M : mm_M} {Q : Option Value → mm_M → Prop} {e : Int32} {t : Nat → Int} {nn : Int} {a : Int} (hX : g_X X) (hd : 3 ≤ d) (hG : g_G M) (q1 : 0 ≤ e.toInt) (q2 : e.toInt ≤ 39) (q3 : RS M t nn) (q4 : (M.2.1 77 10).toInt = a) (q5 : 0 ≤ nn) (q6 : nn ≤ 500) (q7 : TR M t nn) (q8 : W9 M) (h : ∀ (r : Int32) (M1 : mm_M), g_G M1 → FR md_ps M M1 → (0 ≤ r.toInt) → (r.toInt ≤ 1) → ((r.toInt = 1 → RS M1 t nn)) → (∀ r i : Nat, (102 ≤ r ∧ r ≤ 104) → ¬ i = (e.toInt).toNat → M1.2.1 r i = M.2.1 r i) → ((r.toInt = 1 → ∀ k : Int → x_WR, x_wjn t nn a k = k (M1.2.1 77 10).toInt)) → ((r.toInt = 0 → ∀ k : Int → x_WR, x_wjn t nn a k = Sum.inl ((M1.2.1 77 4).toInt, (M1.2.1 77 5).toInt))) → Q (some (.int r)) M1) : mm_T X d 213 0 [.ref 77, .int e] [] M Q := by
  have F0 : FR md_ps M M := FR.rf
  have b_1 := g_b hG (a := 77) (i := 10) (lo := 0) (hi := 500) rfl rfl
  have b_2 := g_b hG (a := 77) (i := 6) (lo := 0) (hi := 500) rfl rfl
  have b_3 := g_b hG (a := 77) (i := 7) (lo := 0) (hi := 500) rfl rfl
  have z_4 := RS_b q3 (a := a) (by omega)
  have z_5 := x_pk_b (t := t) (nn := nn) (a := a)
  have z_6 := x_pk_b (t := t) (nn := nn) (a := (x_ns t nn a))
  refine to_an (pc := 0) rw_214_0 rfl ?_
  refine s_gR (pc := 1) rw_214_1 hG rfl (v := 102) rfl ?_
  refine to_in (pc := 4) rw_214_4 rfl ?_
  refine to_an (pc := 5) rw_214_5 rfl ?_
  refine s_v (pc := 6) rw_214_6 (dp0 hd (by decide)) (ls0 := [.ref 77, .null, .null]) rfl (Nat.le_of_ble_eq_true rfl) (Nat.le_of_ble_eq_true rfl) rfl (to_rc rfl rfl rfl (g_o hG rfl)) rfl ?_
  refine E_211 hX (dp1 hd (by decide)) hG q3 (by omega) (t := t) (nn := nn) (a := a) (fun r7 M14 hG9 F8 p_10 p_11 p_12 p_13 => ?_)
  have F15 := FR.c F0 F8 tg_169
  refine s_ias (pc := 9) rw_214_9 hG9 rfl (n := 40) rfl (A := e.toInt) rfl (by omega) (by omega) (fun M17 W16 => ?_)
  have hG18 := g_w hG9 W16 (A := r7.toInt) rfl (lo := -1) (hi := 99) rfl rfl (by omega) (by decide)
  have F19 := FR.w F15 W16 (show 102 = 77 ∧ ((e.toInt).toNat = 4 ∨ (e.toInt).toNat = 5 ∨ 7 ≤ (e.toInt).toNat ∧ (e.toInt).toNat ≤ 10) ∨ 102 ≤ 102 ∧ 102 ≤ 104 ∨ 102 = 106 ∨ 102 = 107 by omega)
  refine to_an (pc := 10) rw_214_10 rfl ?_
  refine s_gR (pc := 11) rw_214_11 hG18 rfl (v := 102) rfl ?_
  refine to_in (pc := 14) rw_214_14 rfl ?_
  refine s_ialk (pc := 15) rw_214_15 hG18 rfl (n := 40) rfl rfl (A := e.toInt) rfl (by omega) (by omega) (v := r7) (W_e W16) ?_
  refine b_ige (pc := 16) rw_214_16 (A := r7.toInt) rfl (fun h22 => ?_) (fun h22 => ?_)
  · refine to_an (pc := 21) rw_214_21 rfl ?_
    refine s_v (pc := 22) rw_214_22 (dp0 hd (by decide)) (ls0 := [.ref 77]) rfl (Nat.le_of_ble_eq_true rfl) (Nat.le_of_ble_eq_true rfl) rfl (to_rc rfl rfl rfl (g_o hG18 rfl)) rfl ?_
    have c_23 : M17.2.1 77 7 = (M.2.1 77 7) := (W_n W16 (fun z => absurd z.1 (by decide)) (F_n F8 (show ¬ (77 = 77 ∧ (7 = 4 ∨ 7 = 5)) by decide) rfl))
    have t_24 : (M17.2.1 77 7).toInt = (M.2.1 77 7).toInt := congrArg Int32.toInt c_23
    have c_25 : M17.2.1 77 6 = (M.2.1 77 6) := (W_n W16 (fun z => absurd z.1 (by decide)) (F_n F8 (show ¬ (77 = 77 ∧ (6 = 4 ∨ 6 = 5)) by decide) rfl))
    have t_26 : (M17.2.1 77 6).toInt = (M.2.1 77 6).toInt := congrArg Int32.toInt c_25
    have c_27 : M17.2.1 77 10 = (M.2.1 77 10) := (W_n W16 (fun z => absurd z.1 (by decide)) (F_n F8 (show ¬ (77 = 77 ∧ (10 = 4 ∨ 10 = 5)) by decide) rfl))
    have t_28 : (M17.2.1 77 10).toInt = (M.2.1 77 10).toInt := congrArg Int32.toInt c_27
    have j_29 := (RS_f (fun a i z => W_n W16 (tg_171 a i _ z) rfl) (RS_f (tg_41 F8) q3))
    have z_30 := RS_b j_29 (a := a) (by omega)
    have j_31 := (TR_f (fun a i z => W_n W16 (tg_172 a i _ z) rfl) (TR_f (tg_42 F8) q7))
    have j_32 := (W9_f (fun a i z => W_n W16 (tg_173 a i _ z) rfl) (W9_f (tg_44 F8) q8))
    refine E_156 hX (dp1 hd (by decide)) hG18 (by omega) (by omega) (by omega) (by omega) j_31 j_32  (fun M39 hG34 F33 p_35 p_36 p_37 p_38 => ?_)
    have F40 := FR.c F19 F33 tg_170
    have b_41 := g_b hG34 (a := 77) (i := 7) (lo := 0) (hi := 500) rfl rfl
    have c_42 : M39.2.1 77 6 = (M.2.1 77 6) := (F_n F33 (show ¬ (77 = 77 ∧ 7 ≤ 6 ∧ 6 ≤ 10) by decide) c_25)
    have t_43 : (M39.2.1 77 6).toInt = (M.2.1 77 6).toInt := congrArg Int32.toInt c_42
    have b_44 := g_b hG34 (a := 77) (i := 8) (lo := 0) (hi := 5) rfl rfl
    have b_45 := g_b hG34 (a := 77) (i := 10) (lo := 0) (hi := 500) rfl rfl
    have z_46 := RS_s p_38.2 (a := a) (by omega)
    refine to_an (pc := 25) rw_214_25 rfl ?_
    refine s_gR (pc := 26) rw_214_26 hG34 rfl (v := 103) rfl ?_
    refine to_in (pc := 29) rw_214_29 rfl ?_
    refine to_an (pc := 30) rw_214_30 rfl ?_
    refine s_v (pc := 31) rw_214_31 (dp0 hd (by decide)) (ls0 := [.ref 77, .null, .null]) rfl (Nat.le_of_ble_eq_true rfl) (Nat.le_of_ble_eq_true rfl) rfl (to_rc rfl rfl rfl (g_o hG34 rfl)) rfl ?_
    refine E_211 hX (dp1 hd (by decide)) hG34 p_38.1 (by omega) (t := t) (nn := nn) (a := (x_ns t nn a)) (fun r47 M54 hG49 F48 p_50 p_51 p_52 p_53 => ?_)
    have F55 := FR.c F40 F48 tg_169
    refine s_ias (pc := 34) rw_214_34 hG49 rfl (n := 40) rfl (A := e.toInt) rfl (by omega) (by omega) (fun M57 W56 => ?_)
    have hG58 := g_w hG49 W56 (A := r47.toInt) rfl (lo := -1) (hi := 5) rfl rfl (by omega) (by decide)
    have F59 := FR.w F55 W56 (show 103 = 77 ∧ ((e.toInt).toNat = 4 ∨ (e.toInt).toNat = 5 ∨ 7 ≤ (e.toInt).toNat ∧ (e.toInt).toNat ≤ 10) ∨ 102 ≤ 103 ∧ 103 ≤ 104 ∨ 103 = 106 ∨ 103 = 107 by omega)
    refine to_an (pc := 35) rw_214_35 rfl ?_
    refine s_gR (pc := 36) rw_214_36 hG58 rfl (v := 103) rfl ?_
    refine to_in (pc := 39) rw_214_39 rfl ?_
    refine s_ialk (pc := 40) rw_214_40 hG58 rfl (n := 40) rfl rfl (A := e.toInt) rfl (by omega) (by omega) (v := r47) (W_e W56) ?_
    refine b_ige (pc := 41) rw_214_41 (A := r47.toInt) rfl (fun h62 => ?_) (fun h62 => ?_)
    · refine to_an (pc := 46) rw_214_46 rfl ?_
      refine s_gR (pc := 47) rw_214_47 hG58 rfl (v := 103) rfl ?_
      refine to_in (pc := 50) rw_214_50 rfl ?_
      refine s_ialk (pc := 51) rw_214_51 hG58 rfl (n := 40) rfl rfl (A := e.toInt) rfl (by omega) (by omega) (v := r47) (W_e W56) ?_
      refine to_an (pc := 52) rw_214_52 rfl ?_
      refine s_gR (pc := 53) rw_214_53 hG58 rfl (v := 102) rfl ?_
      refine to_in (pc := 56) rw_214_56 rfl ?_
      refine s_ialk (pc := 57) rw_214_57 hG58 rfl (n := 40) rfl rfl (A := e.toInt) rfl (by omega) (by omega) (v := r7) (W_n W56 (by omega) (F_n F48 (show ¬ (102 = 77 ∧ ((e.toInt).toNat = 4 ∨ (e.toInt).toNat = 5)) by omega) (F_n F33 (show ¬ (102 = 77 ∧ 7 ≤ (e.toInt).toNat ∧ (e.toInt).toNat ≤ 10) by omega) (W_e W16)))) ?_
      refine b_cne (pc := 58) rw_214_58 (A := r47.toInt) (B := r7.toInt) rfl rfl (fun h67 => ?_) (fun h67 => ?_)
      · refine to_an (pc := 67) rw_214_67 rfl ?_
        refine s_v (pc := 68) rw_214_68 (dp0 hd (by decide)) (ls0 := [.ref 77]) rfl (Nat.le_of_ble_eq_true rfl) (Nat.le_of_ble_eq_true rfl) rfl (to_rc rfl rfl rfl (g_o hG58 rfl)) rfl ?_
        have c_68 : M57.2.1 77 7 = (M39.2.1 77 7) := (W_n W56 (fun z => absurd z.1 (by decide)) (F_n F48 (show ¬ (77 = 77 ∧ (7 = 4 ∨ 7 = 5)) by decide) rfl))
        have t_69 : (M57.2.1 77 7).toInt = (M39.2.1 77 7).toInt := congrArg Int32.toInt c_68
        have c_70 : M57.2.1 77 6 = (M.2.1 77 6) := (W_n W56 (fun z => absurd z.1 (by decide)) (F_n F48 (show ¬ (77 = 77 ∧ (6 = 4 ∨ 6 = 5)) by decide) c_42))
        have t_71 : (M57.2.1 77 6).toInt = (M.2.1 77 6).toInt := congrArg Int32.toInt c_70
        have c_72 : M57.2.1 77 10 = (M39.2.1 77 10) := (W_n W56 (fun z => absurd z.1 (by decide)) (F_n F48 (show ¬ (77 = 77 ∧ (10 = 4 ∨ 10 = 5)) by decide) rfl))
        have t_73 : (M57.2.1 77 10).toInt = (M39.2.1 77 10).toInt := congrArg Int32.toInt c_72
        have j_74 := (RS_f (fun a i z => W_n W56 (tg_174 a i _ z) rfl) (RS_f (tg_41 F48) p_38.1))
        have z_75 := RS_b j_74 (a := (x_ns t nn a)) (by omega)
        have j_76 := (TR_f (fun a i z => W_n W56 (tg_175 a i _ z) rfl) (TR_f (tg_42 F48) (TR_f (tg_47 F33) j_31)))
        have j_77 := (W9_f (fun a i z => W_n W56 (tg_176 a i _ z) rfl) (W9_f (tg_44 F48) (W9_f (tg_48 F33) j_32)))
        refine E_156 hX (dp1 hd (by decide)) hG58 (by omega) (by omega) (by omega) (by omega) j_76 j_77  (fun M84 hG79 F78 p_80 p_81 p_82 p_83 => ?_)
        have F85 := FR.c F59 F78 tg_170
        have b_86 := g_b hG79 (a := 77) (i := 7) (lo := 0) (hi := 500) rfl rfl
        have c_87 : M84.2.1 77 6 = (M.2.1 77 6) := (F_n F78 (show ¬ (77 = 77 ∧ 7 ≤ 6 ∧ 6 ≤ 10) by decide) c_70)
        have t_88 : (M84.2.1 77 6).toInt = (M.2.1 77 6).toInt := congrArg Int32.toInt c_87
        have b_89 := g_b hG79 (a := 77) (i := 8) (lo := 0) (hi := 5) rfl rfl
        have b_90 := g_b hG79 (a := 77) (i := 10) (lo := 0) (hi := 500) rfl rfl
        have z_91 := RS_s p_83.2 (a := (x_ns t nn a)) (by omega)
        refine to_an (pc := 71) rw_214_71 rfl ?_
        refine to_c (pc := 72) rw_214_72 (x := (59 : Int32)) rfl rfl ?_
        refine s_v (pc := 74) rw_214_74 (dp0 hd (by decide)) (ls0 := [.ref 77, .int (59 : Int32)]) rfl (Nat.le_of_ble_eq_true rfl) (Nat.le_of_ble_eq_true rfl) rfl (to_rc rfl rfl rfl (g_o hG79 rfl)) rfl ?_
        have k_92 : (59 : Int32).toInt = 59 := rfl
        have c_93 : M84.2.1 77 4 = (M54.2.1 77 4) := (F_n F78 (show ¬ (77 = 77 ∧ 7 ≤ 4 ∧ 4 ≤ 10) by decide) (W_n W56 (fun z => absurd z.1 (by decide)) rfl))
        have t_94 : (M84.2.1 77 4).toInt = (M54.2.1 77 4).toInt := congrArg Int32.toInt c_93
        have c_95 : M84.2.1 77 5 = (M54.2.1 77 5) := (F_n F78 (show ¬ (77 = 77 ∧ 7 ≤ 5 ∧ 5 ≤ 10) by decide) (W_n W56 (fun z => absurd z.1 (by decide)) rfl))
        have t_96 : (M84.2.1 77 5).toInt = (M54.2.1 77 5).toInt := congrArg Int32.toInt c_95
        have j_97 := (TR_f (tg_47 F78) j_76)
        have j_98 := (W9_f (tg_48 F78) j_77)
        refine E_160w hX (dp1 hd (by decide)) hG79 p_83.1 (by omega) (by omega) (by omega) j_97 j_98 (by omega) (c := (59 : Int32)) (t := t) (nn := nn) (a := (x_ns t nn (x_ns t nn a))) (fun r99 M109 hG101 F100 p_102 p_103 p_104 p_105 p_106 p_107 p_108 => ?_)
        have F110 := FR.c F85 F100 tg_168
        have b_111 := g_b hG101 (a := 77) (i := 10) (lo := 0) (hi := 500) rfl rfl
        rcases (show r99.toInt = 0 ∨ r99.toInt = 1 by omega) with h112 | h112
        · skip
          have p_113 := p_106 (by omega)
          have p_114 := p_107 (by omega)
          clear p_105 p_106 p_107 p_108
          refine s_r1 (pc := 77) rw_214_77 (A := r99.toInt) rfl (by omega) ?_
          exact h r99 M109 hG101 F110 (by omega) (by omega) (fun z => by exfalso; omega) (fun r i z z2 => (F_n F100 (show ¬ (r = 77 ∧ (i = 4 ∨ i = 5 ∨ 7 ≤ i ∧ i ≤ 10)) by omega) (F_n F78 (show ¬ (r = 77 ∧ 7 ≤ i ∧ i ≤ 10) by omega) (W_n W56 (by omega) (F_n F48 (show ¬ (r = 77 ∧ (i = 4 ∨ i = 5)) by omega) (F_n F33 (show ¬ (r = 77 ∧ 7 ≤ i ∧ i ≤ 10) by omega) (W_n W16 (by omega) (F_n F8 (show ¬ (r = 77 ∧ (i = 4 ∨ i = 5)) by omega) rfl)))))))) (fun z => by exfalso; omega) (fun _ k9 => winl (by omega) (by omega) (wj_4 (by omega) (by omega) (by omega) (by omega)))
        · skip
          have p_115 := p_105 (by omega)
          have p_116 := p_108 (by omega)
          clear p_105 p_106 p_107 p_108
          refine s_r1 (pc := 77) rw_214_77 (A := r99.toInt) rfl (by omega) ?_
          exact h r99 M109 hG101 F110 (by omega) (by omega) (fun _ => p_104) (fun r i z z2 => (F_n F100 (show ¬ (r = 77 ∧ (i = 4 ∨ i = 5 ∨ 7 ≤ i ∧ i ≤ 10)) by omega) (F_n F78 (show ¬ (r = 77 ∧ 7 ≤ i ∧ i ≤ 10) by omega) (W_n W56 (by omega) (F_n F48 (show ¬ (r = 77 ∧ (i = 4 ∨ i = 5)) by omega) (F_n F33 (show ¬ (r = 77 ∧ 7 ≤ i ∧ i ≤ 10) by omega) (W_n W16 (by omega) (F_n F8 (show ¬ (r = 77 ∧ (i = 4 ∨ i = 5)) by omega) rfl)))))))) (fun _ k9 => by rw [show (M109.2.1 77 10).toInt = (x_ns t nn (x_ns t nn (x_ns t nn a))) by omega]; exact wj_y (by omega) (by omega) (by omega) (by omega)) (fun z => by exfalso; omega)
      · refine to_an (pc := 61) rw_214_61 rfl ?_
        refine to_c (pc := 62) rw_214_62 (x := (3 : Int32)) rfl rfl ?_
        refine s_v (pc := 63) rw_214_63 (dp0 hd (by decide)) (ls0 := [.ref 77, .int (3 : Int32)]) rfl (Nat.le_of_ble_eq_true rfl) (Nat.le_of_ble_eq_true rfl) rfl (to_rc rfl rfl rfl (g_o hG58 rfl)) rfl ?_
        refine to_an (pc := 0) rw_152_0 rfl ?_
        refine to_in (pc := 1) rw_152_1 rfl ?_
        refine s_pI (pc := 2) rw_152_2 hG58 rfl (fun M118 W117 => ?_)
        have hG119 := g_wf hG58 W117 rfl rfl (by decide)
        have F120 := FR.w F59 W117 (show 77 = 77 ∧ (4 = 4 ∨ 4 = 5 ∨ 7 ≤ 4 ∧ 4 ≤ 10) ∨ 102 ≤ 77 ∧ 77 ≤ 104 ∨ 77 = 106 ∨ 77 = 107 by decide)
        refine to_an (pc := 5) rw_152_5 rfl ?_
        refine to_an (pc := 6) rw_152_6 rfl ?_
        have c_121 : M118.2.1 77 10 = (M39.2.1 77 10) := (W_n W117 (by decide) (W_n W56 (fun z => absurd z.1 (by decide)) (F_n F48 (show ¬ (77 = 77 ∧ (10 = 4 ∨ 10 = 5)) by decide) rfl)))
        refine tt_gI (pc := 7) rw_152_7 (g_o hG119 rfl) (v := (M39.2.1 77 10)) c_121 ?_
        refine s_pI (pc := 10) rw_152_10 hG119 rfl (fun M123 W122 => ?_)
        have hG124 := g_wf hG119 W122 rfl rfl (by decide)
        have F125 := FR.w F120 W122 (show 77 = 77 ∧ (5 = 4 ∨ 5 = 5 ∨ 7 ≤ 5 ∧ 5 ≤ 10) ∨ 102 ≤ 77 ∧ 77 ≤ 104 ∨ 77 = 106 ∨ 77 = 107 by decide)
        refine to_c (pc := 13) rw_152_13 (x := (0 : Int32)) rfl rfl ?_
        refine s_r1 (pc := 14) rw_152_14 (A := 0) rfl (by decide) ?_
        refine s_r1 (pc := 66) rw_214_66 (A := 0) rfl (by decide) ?_
        have k_126 : (0 : Int32).toInt = 0 := rfl
        have c_127 : M123.2.1 77 4 = (3 : Int32) := (W_n W122 (by decide) (W_e W117))
        have k_128 : (3 : Int32).toInt = 3 := rfl
        have t_129 : (M123.2.1 77 4).toInt = (3 : Int32).toInt := congrArg Int32.toInt c_127
        have c_130 : M123.2.1 77 5 = (M39.2.1 77 10) := (W_e W122)
        have t_131 : (M123.2.1 77 5).toInt = (M39.2.1 77 10).toInt := congrArg Int32.toInt c_130
        exact h (0 : Int32) M123 hG124 F125 (by decide) (by decide) (fun z => by exfalso; omega) (fun r i z z2 => (W_n W122 (by omega) (W_n W117 (by omega) (W_n W56 (by omega) (F_n F48 (show ¬ (r = 77 ∧ (i = 4 ∨ i = 5)) by omega) (F_n F33 (show ¬ (r = 77 ∧ 7 ≤ i ∧ i ≤ 10) by omega) (W_n W16 (by omega) (F_n F8 (show ¬ (r = 77 ∧ (i = 4 ∨ i = 5)) by omega) rfl)))))))) (fun z => by exfalso; omega) (fun _ k9 => winl (by omega) (by omega) (wj_3 (by omega) (by omega) (by omega)))
    · refine to_c (pc := 44) rw_214_44 (x := (0 : Int32)) rfl rfl ?_
      refine s_r1 (pc := 45) rw_214_45 (A := 0) rfl (by decide) ?_
      have k_132 : (0 : Int32).toInt = 0 := rfl
      have c_133 : M57.2.1 77 4 = (M54.2.1 77 4) := (W_n W56 (fun z => absurd z.1 (by decide)) rfl)
      have t_134 : (M57.2.1 77 4).toInt = (M54.2.1 77 4).toInt := congrArg Int32.toInt c_133
      have c_135 : M57.2.1 77 5 = (M54.2.1 77 5) := (W_n W56 (fun z => absurd z.1 (by decide)) rfl)
      have t_136 : (M57.2.1 77 5).toInt = (M54.2.1 77 5).toInt := congrArg Int32.toInt c_135
      exact h (0 : Int32) M57 hG58 F59 (by decide) (by decide) (fun z => by exfalso; omega) (fun r i z z2 => (W_n W56 (by omega) (F_n F48 (show ¬ (r = 77 ∧ (i = 4 ∨ i = 5)) by omega) (F_n F33 (show ¬ (r = 77 ∧ 7 ≤ i ∧ i ≤ 10) by omega) (W_n W16 (by omega) (F_n F8 (show ¬ (r = 77 ∧ (i = 4 ∨ i = 5)) by omega) rfl)))))) (fun z => by exfalso; omega) (fun _ k9 => winl (by omega) (by omega) (wj_2 (by omega) (by omega)))
  · refine to_c (pc := 19) rw_214_19 (x := (0 : Int32)) rfl rfl ?_
    refine s_r1 (pc := 20) rw_214_20 (A := 0) rfl (by decide) ?_
    have k_137 : (0 : Int32).toInt = 0 := rfl
    have c_138 : M17.2.1 77 4 = (M14.2.1 77 4) := (W_n W16 (fun z => absurd z.1 (by decide)) rfl)
    have t_139 : (M17.2.1 77 4).toInt = (M14.2.1 77 4).toInt := congrArg Int32.toInt c_138
    have c_140 : M17.2.1 77 5 = (M14.2.1 77 5) := (W_n W16 (fun z => absurd z.1 (by decide)) rfl)
    have t_141 : (M17.2.1 77 5).toInt = (M14.2.1 77 5).toInt := congrArg Int32.toInt c_140
    exact h (0 : Int32) M17 hG18 F19 (by decide) (by decide) (fun z => by exfalso; omega) (fun r i z z2 => (W_n W16 (by omega) (F_n F8 (show ¬ (r = 77 ∧ (i = 4 ∨ i = 5)) by omega) rfl))) (fun z => by exfalso; omega) (fun _ k9 => winl (by omega) (by omega) (wj_1 (by omega)))
