theorem tg_149 {M M1 : mm_M} (F : FR (fun a i : Nat => a = 77 ∧ (i = 4 ∨ i = 5 ∨ 7 ≤ i ∧ i ≤ 10) ∨ a = 106 ∨ a = 107) M M1) : ∀ a i : Nat, a = 78 → M1.2.1 a i = M.2.1 a i := fun a i z => F_n F (show ¬ (a = 77 ∧ (i = 4 ∨ i = 5 ∨ 7 ≤ i ∧ i ≤ 10) ∨ a = 106 ∨ a = 107) by omega) rfl
theorem tg_150 {M M1 : mm_M} (F : FR (fun a i : Nat => a = 77 ∧ (i = 4 ∨ i = 5 ∨ 7 ≤ i ∧ i ≤ 10) ∨ a = 106 ∨ a = 107) M M1) : ∀ a i : Nat, a = 79 → M1.2.1 a i = M.2.1 a i := fun a i z => F_n F (show ¬ (a = 77 ∧ (i = 4 ∨ i = 5 ∨ 7 ≤ i ∧ i ≤ 10) ∨ a = 106 ∨ a = 107) by omega) rfl
theorem tg_151 {M M1 : mm_M} (F : FR (fun a i : Nat => a = 77 ∧ (i = 4 ∨ i = 5 ∨ 7 ≤ i ∧ i ≤ 10) ∨ a = 106 ∨ a = 107) M M1) : ∀ a i : Nat, (a = 77 ∧ 11 ≤ i ∧ i ≤ 13 ∨ 80 ≤ a ∧ a ≤ 84 ∧ i < 8 ∨ 85 ≤ a ∧ a ≤ 86 ∧ i < 12) → M1.2.1 a i = M.2.1 a i := fun a i z => F_n F (show ¬ (a = 77 ∧ (i = 4 ∨ i = 5 ∨ 7 ≤ i ∧ i ≤ 10) ∨ a = 106 ∨ a = 107) by omega) rfl
theorem tg_152 {M M1 : mm_M} (F : FR (fun a i : Nat => a = 77 ∧ (i = 4 ∨ i = 5 ∨ 7 ≤ i ∧ i ≤ 10)) M M1) : ∀ a i : Nat, a = 78 → M1.2.1 a i = M.2.1 a i := fun a i z => F_n F (show ¬ (a = 77 ∧ (i = 4 ∨ i = 5 ∨ 7 ≤ i ∧ i ≤ 10)) by omega) rfl
theorem tg_153 {M M1 : mm_M} (F : FR (fun a i : Nat => a = 77 ∧ (i = 4 ∨ i = 5 ∨ 7 ≤ i ∧ i ≤ 10)) M M1) : ∀ a i : Nat, a = 79 → M1.2.1 a i = M.2.1 a i := fun a i z => F_n F (show ¬ (a = 77 ∧ (i = 4 ∨ i = 5 ∨ 7 ≤ i ∧ i ≤ 10)) by omega) rfl
theorem tg_154 {M M1 : mm_M} (F : FR (fun a i : Nat => a = 77 ∧ (i = 4 ∨ i = 5 ∨ 7 ≤ i ∧ i ≤ 10)) M M1) : ∀ a i : Nat, (a = 77 ∧ 11 ≤ i ∧ i ≤ 13 ∨ 80 ≤ a ∧ a ≤ 84 ∧ i < 8 ∨ 85 ≤ a ∧ a ≤ 86 ∧ i < 12) → M1.2.1 a i = M.2.1 a i := fun a i z => F_n F (show ¬ (a = 77 ∧ (i = 4 ∨ i = 5 ∨ 7 ≤ i ∧ i ≤ 10)) by omega) rfl
theorem tg_155 {M M1 : mm_M} (F : FR (fun a i : Nat => a = 77 ∧ (i = 4 ∨ i = 5)) M M1) : ∀ a i : Nat, (a = 77 ∧ 11 ≤ i ∧ i ≤ 13 ∨ 80 ≤ a ∧ a ≤ 84 ∧ i < 8 ∨ 85 ≤ a ∧ a ≤ 86 ∧ i < 12) → M1.2.1 a i = M.2.1 a i := fun a i z => F_n F (show ¬ (a = 77 ∧ (i = 4 ∨ i = 5)) by omega) rfl
theorem tg_156 : ∀ a i : Nat, (a = 77 ∧ (i = 4 ∨ i = 5 ∨ 7 ≤ i ∧ i ≤ 10) ∨ a = 106 ∨ a = 107) → (a = 77 ∧ (i = 4 ∨ i = 5 ∨ 7 ≤ i ∧ i ≤ 10) ∨ 102 ≤ a ∧ a ≤ 104 ∨ a = 106 ∨ a = 107) := fun a i z => by omega
theorem tg_157 : ∀ a i : Nat, (a = 77 ∧ (i = 4 ∨ i = 5 ∨ 7 ≤ i ∧ i ≤ 10)) → (a = 77 ∧ (i = 4 ∨ i = 5 ∨ 7 ≤ i ∧ i ≤ 10) ∨ 102 ≤ a ∧ a ≤ 104 ∨ a = 106 ∨ a = 107) := fun a i z => by omega
theorem tg_158 : ∀ a i : Nat, (a = 77 ∧ (i = 4 ∨ i = 5)) → (a = 77 ∧ (i = 4 ∨ i = 5 ∨ 7 ≤ i ∧ i ≤ 10) ∨ 102 ≤ a ∧ a ≤ 104 ∨ a = 106 ∨ a = 107) := fun a i z => by omega
theorem tg_159 : ∀ a i : Nat, (a = 77 ∧ 7 ≤ i ∧ i ≤ 10) → (a = 77 ∧ (i = 4 ∨ i = 5 ∨ 7 ≤ i ∧ i ≤ 10) ∨ 102 ≤ a ∧ a ≤ 104 ∨ a = 106 ∨ a = 107) := fun a i z => by omega
theorem tg_160 : ∀ a i j : Nat, (a = 77 ∧ 6 ≤ i ∧ i ≤ 10) → ¬ (a = 102 ∧ i = j) := fun a i j z => by omega
theorem tg_161 : ∀ a i j : Nat, a = 78 → ¬ (a = 102 ∧ i = j) := fun a i j z => by omega
theorem tg_162 : ∀ a i j : Nat, a = 79 → ¬ (a = 102 ∧ i = j) := fun a i j z => by omega
theorem tg_163 : ∀ a i j : Nat, (a = 77 ∧ 6 ≤ i ∧ i ≤ 10) → ¬ (a = 103 ∧ i = j) := fun a i j z => by omega
theorem tg_164 : ∀ a i j : Nat, a = 78 → ¬ (a = 103 ∧ i = j) := fun a i j z => by omega
theorem tg_165 : ∀ a i j : Nat, a = 79 → ¬ (a = 103 ∧ i = j) := fun a i j z => by omega
theorem tg_166 : ∀ a i j : Nat, (a = 77 ∧ 6 ≤ i ∧ i ≤ 10) → ¬ (a = 104 ∧ i = j) := fun a i j z => by omega
theorem tg_167 : ∀ a i j : Nat, a = 78 → ¬ (a = 104 ∧ i = j) := fun a i j z => by omega
theorem tg_168 : ∀ a i j : Nat, a = 79 → ¬ (a = 104 ∧ i = j) := fun a i j z => by omega
theorem tg_169 : ∀ a i j : Nat, a = 78 → ¬ (a = 107 ∧ i = j) := fun a i j z => by omega
theorem tg_170 : ∀ a i j : Nat, a = 79 → ¬ (a = 107 ∧ i = j) := fun a i j z => by omega
theorem tg_171 : ∀ a i j : Nat, (a = 77 ∧ 11 ≤ i ∧ i ≤ 13 ∨ 80 ≤ a ∧ a ≤ 84 ∧ i < 8 ∨ 85 ≤ a ∧ a ≤ 86 ∧ i < 12) → ¬ (a = 107 ∧ i = j) := fun a i j z => by omega
theorem tg_172 : ∀ a i j : Nat, (a = 77 ∧ 11 ≤ i ∧ i ≤ 13 ∨ 80 ≤ a ∧ a ≤ 84 ∧ i < 8 ∨ 85 ≤ a ∧ a ≤ 86 ∧ i < 12) → ¬ (a = 104 ∧ i = j) := fun a i j z => by omega
theorem tg_173 : ∀ a i j : Nat, (a = 77 ∧ 11 ≤ i ∧ i ≤ 13 ∨ 80 ≤ a ∧ a ≤ 84 ∧ i < 8 ∨ 85 ≤ a ∧ a ≤ 86 ∧ i < 12) → ¬ (a = 103 ∧ i = j) := fun a i j z => by omega
theorem tg_174 : ∀ a i j : Nat, (a = 77 ∧ 11 ≤ i ∧ i ≤ 13 ∨ 80 ≤ a ∧ a ≤ 84 ∧ i < 8 ∨ 85 ≤ a ∧ a ≤ 86 ∧ i < 12) → ¬ (a = 102 ∧ i = j) := fun a i j z => by omega
set_option maxRecDepth 4000 in
set_option maxHeartbeats 0 in
theorem U_213_0 {X : mm_X} {d : Nat} {M : mm_M} {Q : Option Value → mm_M → Prop} {e : Int32} {t : Nat → Int} {nn : Int} {a : Int} {sg : x_S} {n9 : Int} {op : List Int} {A9 : x_A} (hX : g_X X) (hd : 3 ≤ d) (q1 : 0 ≤ e.toInt) (q2 : e.toInt ≤ 39) (q3 : RS M t nn) (q4 : (M.2.1 77 10).toInt = a) (q5 : 0 ≤ nn) (q6 : nn ≤ 500) (q7 : TR M t nn) (q8 : W9 M) (q9 : PLk M sg) (h : ∀ (r : Int32) (M1 : mm_M), g_G M1 → FR md_ps M M1 → (0 ≤ r.toInt) → (r.toInt ≤ 1) → ((r.toInt = 1 → RS M1 t nn)) → (∀ r i : Nat, (102 ≤ r ∧ r ≤ 104) → ¬ i = (e.toInt).toNat → M1.2.1 r i = M.2.1 r i) → ((r.toInt = 1 → x_wps t nn sg a (x_ww t nn sg 1 n9 op A9) = x_ww t nn sg 0 n9 op A9 (M1.2.1 77 10).toInt)) → ((r.toInt = 0 → x_wps t nn sg a (x_ww t nn sg 1 n9 op A9) = Sum.inl ((M1.2.1 77 4).toInt, (M1.2.1 77 5).toInt))) → Q (some (.int r)) M1) : ∀ nn9 : Nat, (∀ (N : mm_M), g_G N → FR md_ps M N → (RS N t nn) → (0 ≤ nn) → (nn ≤ 500) → (TR N t nn) → (W9 N) → (PLk N sg) → (∀ r i : Nat, (102 ≤ r ∧ r ≤ 104) → ¬ i = (e.toInt).toNat → N.2.1 r i = M.2.1 r i) → (x_wps t nn sg a (x_ww t nn sg 1 n9 op A9) = x_ww t nn sg 1 n9 op A9 (N.2.1 77 10).toInt) → 501 - (N.2.1 77 10).toInt < (nn9 : Int) → mm_T X d 212 133 [.ref 77, .int e] [] N Q) := by
  intro nn9
  induction nn9 with
  | zero =>
    intro N hG F0 g1 g2 g3 g4 g5 g6 g7 g8 hm
    have b_1 := g_b hG (a := 77) (i := 10) (lo := 0) (hi := 500) rfl rfl
    exfalso; omega
  | succ nn9 ih =>
    intro N hG F0 g1 g2 g3 g4 g5 g6 g7 g8 hm
    have b_2 := g_b hG (a := 77) (i := 10) (lo := 0) (hi := 500) rfl rfl
    have b_3 := g_b hG (a := 77) (i := 8) (lo := 0) (hi := 5) rfl rfl
    have z_4 := RS_k g1 (a := (N.2.1 77 10).toInt) (by omega)
    have b_5 := g_b hG (a := 77) (i := 6) (lo := 0) (hi := 500) rfl rfl
    have b_6 := g_b hG (a := 77) (i := 7) (lo := 0) (hi := 500) rfl rfl
    have z_7 := RS_b g1 (a := (N.2.1 77 10).toInt) (by omega)
    refine to_an (pc := 133) rw_213_133 rfl ?_
    refine tt_gI (pc := 134) rw_213_134 (g_o hG rfl) (v := (N.2.1 77 8)) rfl ?_
    refine to_c (pc := 137) rw_213_137 (x := (3 : Int32)) rfl rfl ?_
    refine b_ceq (pc := 138) rw_213_138 (A := (N.2.1 77 8).toInt) (B := 3) rfl rfl (fun h8 => ?_) (fun h8 => ?_)
    · refine to_an (pc := 149) rw_213_149 rfl ?_
      refine to_in (pc := 150) rw_213_150 rfl ?_
      refine s_v (pc := 151) rw_213_151 (dp0 hd (by decide)) (ls0 := [.ref 77, .int e, .null, .null]) rfl (Nat.le_of_ble_eq_true rfl) (Nat.le_of_ble_eq_true rfl) rfl (to_rc rfl rfl rfl (g_o hG rfl)) rfl ?_
      refine E_212 hX (dp1 hd (by decide)) hG (by omega) (by omega) g1 (by omega) (by omega) (by omega) g4 g5 g6 (by omega) (e := e) (t := t) (nn := nn) (a := (N.2.1 77 10).toInt) (sg := sg) (fun r9 M18 hG11 F10 p_12 p_13 p_14 p_15 p_16 p_17 => ?_)
      have F19 := FR.c F0 F10 tg_156
      have b_20 := g_b hG11 (a := 77) (i := 10) (lo := 0) (hi := 500) rfl rfl
      rcases (show r9.toInt = 0 ∨ r9.toInt = 1 by omega) with h21 | h21
      · skip
        have p_22 := p_17 (by omega)
        clear p_14 p_15 p_16 p_17
        have z_23 := g8.trans (w1_nx (by omega) (by omega) (by omega) p_22)
        refine b_ine_f (pc := 154) rw_213_154 (A := r9.toInt) rfl (by omega) ?_
        refine to_c (pc := 157) rw_213_157 (x := (0 : Int32)) rfl rfl ?_
        refine s_r1 (pc := 158) rw_213_158 (A := 0) rfl (by decide) ?_
        have k_24 : (0 : Int32).toInt = 0 := rfl
        exact h (0 : Int32) M18 hG11 F19 (by decide) (by decide) (fun z => by exfalso; omega) (fun r i z z2 => (F_n F10 (show ¬ (r = 77 ∧ (i = 4 ∨ i = 5 ∨ 7 ≤ i ∧ i ≤ 10) ∨ r = 106 ∨ r = 107) by omega) (g7 r i z z2))) (fun z => by exfalso; omega) (fun _ => winl (by omega) (by omega) z_23)
      · skip
        have p_25 := p_14 (by omega)
        have p_26 := p_15 (by omega)
        have p_27 := p_16 (by omega)
        clear p_14 p_15 p_16 p_17
        have z_28 := g8.trans (w1_ny (by omega) (by omega) p_27)
        refine b_ine_t (pc := 154) rw_213_154 (A := r9.toInt) rfl (by omega) ?_
        have j_29 := (TR_f (tg_149 F10) g4)
        have j_30 := (W9_f (tg_150 F10) g5)
        have j_31 := (PLk_f (tg_151 F10) g6)
        exact ih M18  hG11 F19 p_26 (by omega) (by omega) j_29 j_30 j_31 (fun r i z z2 => (F_n F10 (show ¬ (r = 77 ∧ (i = 4 ∨ i = 5 ∨ 7 ≤ i ∧ i ≤ 10) ∨ r = 106 ∨ r = 107) by omega) (g7 r i z z2))) z_28 (by omega)
    · refine to_an (pc := 141) rw_213_141 rfl ?_
      refine tt_gI (pc := 142) rw_213_142 (g_o hG rfl) (v := (N.2.1 77 8)) rfl ?_
      refine to_c (pc := 145) rw_213_145 (x := (2 : Int32)) rfl rfl ?_
      refine b_cne (pc := 146) rw_213_146 (A := (N.2.1 77 8).toInt) (B := 2) rfl rfl (fun h32 => ?_) (fun h32 => ?_)
      · refine to_an (pc := 159) rw_213_159 rfl ?_
        refine to_c (pc := 160) rw_213_160 (x := (59 : Int32)) rfl rfl ?_
        refine s_v (pc := 162) rw_213_162 (dp0 hd (by decide)) (ls0 := [.ref 77, .int (59 : Int32)]) rfl (Nat.le_of_ble_eq_true rfl) (Nat.le_of_ble_eq_true rfl) rfl (to_rc rfl rfl rfl (g_o hG rfl)) rfl ?_
        have k_33 : (59 : Int32).toInt = 59 := rfl
        refine E_160w hX (dp1 hd (by decide)) hG g1 (by omega) (by omega) (by omega) g4 g5 (by omega) (c := (59 : Int32)) (t := t) (nn := nn) (a := (N.2.1 77 10).toInt) (fun r34 M43 hG36 F35 p_37 p_38 p_39 p_40 p_41 p_42 => ?_)
        have F44 := FR.c F0 F35 tg_157
        have b_45 := g_b hG36 (a := 77) (i := 10) (lo := 0) (hi := 500) rfl rfl
        rcases (show r34.toInt = 0 ∨ r34.toInt = 1 by omega) with h46 | h46
        · skip
          have p_47 := p_41 (by omega)
          have p_48 := p_42 (by omega)
          clear p_40 p_41 p_42
          have z_49 := g8.trans (w1_x (by omega) (by omega) (by omega) (by omega))
          refine s_r1 (pc := 165) rw_213_165 (A := r34.toInt) rfl (by omega) ?_
          exact h r34 M43 hG36 F44 (by omega) (by omega) (fun z => by exfalso; omega) (fun r i z z2 => (F_n F35 (show ¬ (r = 77 ∧ (i = 4 ∨ i = 5 ∨ 7 ≤ i ∧ i ≤ 10)) by omega) (g7 r i z z2))) (fun z => by exfalso; omega) (fun _ => winl (by omega) (by omega) z_49)
        · skip
          have p_50 := p_40 (by omega)
          clear p_40 p_41 p_42
          have z_51 := g8.trans (w1_s (by omega) (by omega) (by omega))
          refine s_r1 (pc := 165) rw_213_165 (A := r34.toInt) rfl (by omega) ?_
          exact h r34 M43 hG36 F44 (by omega) (by omega) (fun _ => p_39) (fun r i z z2 => (F_n F35 (show ¬ (r = 77 ∧ (i = 4 ∨ i = 5 ∨ 7 ≤ i ∧ i ≤ 10)) by omega) (g7 r i z z2))) (fun _ => z_51.trans (w_v rfl (by omega))) (fun z => by exfalso; omega)
      · refine to_an (pc := 149) rw_213_149 rfl ?_
        refine to_in (pc := 150) rw_213_150 rfl ?_
        refine s_v (pc := 151) rw_213_151 (dp0 hd (by decide)) (ls0 := [.ref 77, .int e, .null, .null]) rfl (Nat.le_of_ble_eq_true rfl) (Nat.le_of_ble_eq_true rfl) rfl (to_rc rfl rfl rfl (g_o hG rfl)) rfl ?_
        refine E_212 hX (dp1 hd (by decide)) hG (by omega) (by omega) g1 (by omega) (by omega) (by omega) g4 g5 g6 (by omega) (e := e) (t := t) (nn := nn) (a := (N.2.1 77 10).toInt) (sg := sg) (fun r52 M61 hG54 F53 p_55 p_56 p_57 p_58 p_59 p_60 => ?_)
        have F62 := FR.c F0 F53 tg_156
        have b_63 := g_b hG54 (a := 77) (i := 10) (lo := 0) (hi := 500) rfl rfl
        rcases (show r52.toInt = 0 ∨ r52.toInt = 1 by omega) with h64 | h64
        · skip
          have p_65 := p_60 (by omega)
          clear p_57 p_58 p_59 p_60
          have z_66 := g8.trans (w1_nx (by omega) (by omega) (by omega) p_65)
          refine b_ine_f (pc := 154) rw_213_154 (A := r52.toInt) rfl (by omega) ?_
          refine to_c (pc := 157) rw_213_157 (x := (0 : Int32)) rfl rfl ?_
          refine s_r1 (pc := 158) rw_213_158 (A := 0) rfl (by decide) ?_
          have k_67 : (0 : Int32).toInt = 0 := rfl
          exact h (0 : Int32) M61 hG54 F62 (by decide) (by decide) (fun z => by exfalso; omega) (fun r i z z2 => (F_n F53 (show ¬ (r = 77 ∧ (i = 4 ∨ i = 5 ∨ 7 ≤ i ∧ i ≤ 10) ∨ r = 106 ∨ r = 107) by omega) (g7 r i z z2))) (fun z => by exfalso; omega) (fun _ => winl (by omega) (by omega) z_66)
        · skip
          have p_68 := p_57 (by omega)
          have p_69 := p_58 (by omega)
          have p_70 := p_59 (by omega)
          clear p_57 p_58 p_59 p_60
          have z_71 := g8.trans (w1_ny (by omega) (by omega) p_70)
          refine b_ine_t (pc := 154) rw_213_154 (A := r52.toInt) rfl (by omega) ?_
          have j_72 := (TR_f (tg_149 F53) g4)
          have j_73 := (W9_f (tg_150 F53) g5)
          have j_74 := (PLk_f (tg_151 F53) g6)
          exact ih M61  hG54 F62 p_69 (by omega) (by omega) j_72 j_73 j_74 (fun r i z z2 => (F_n F53 (show ¬ (r = 77 ∧ (i = 4 ∨ i = 5 ∨ 7 ≤ i ∧ i ≤ 10) ∨ r = 106 ∨ r = 107) by omega) (g7 r i z z2))) z_71 (by omega)
set_option maxRecDepth 4000 in
set_option maxHeartbeats 0 in
theorem E_213 {X : mm_X} {d : Nat} {M : mm_M} {Q : Option Value → mm_M → Prop} {e : Int32} {t : Nat → Int} {nn : Int} {a : Int} {sg : x_S} {n9 : Int} {op : List Int} {A9 : x_A} (hX : g_X X) (hd : 3 ≤ d) (hG : g_G M) (q1 : 0 ≤ e.toInt) (q2 : e.toInt ≤ 39) (q3 : RS M t nn) (q4 : (M.2.1 77 10).toInt = a) (q5 : 0 ≤ nn) (q6 : nn ≤ 500) (q7 : TR M t nn) (q8 : W9 M) (q9 : PLk M sg) (h : ∀ (r : Int32) (M1 : mm_M), g_G M1 → FR md_ps M M1 → (0 ≤ r.toInt) → (r.toInt ≤ 1) → ((r.toInt = 1 → RS M1 t nn)) → (∀ r i : Nat, (102 ≤ r ∧ r ≤ 104) → ¬ i = (e.toInt).toNat → M1.2.1 r i = M.2.1 r i) → ((r.toInt = 1 → x_wps t nn sg a (x_ww t nn sg 1 n9 op A9) = x_ww t nn sg 0 n9 op A9 (M1.2.1 77 10).toInt)) → ((r.toInt = 0 → x_wps t nn sg a (x_ww t nn sg 1 n9 op A9) = Sum.inl ((M1.2.1 77 4).toInt, (M1.2.1 77 5).toInt))) → Q (some (.int r)) M1) : mm_T X d 212 0 [.ref 77, .int e] [] M Q := by
  have F0 : FR md_ps M M := FR.rf
  have b_75 := g_b hG (a := 77) (i := 10) (lo := 0) (hi := 500) rfl rfl
  have b_76 := g_b hG (a := 77) (i := 8) (lo := 0) (hi := 5) rfl rfl
  have z_77 := RS_k q3 (a := a) (by omega)
  have b_78 := g_b hG (a := 77) (i := 6) (lo := 0) (hi := 500) rfl rfl
  have b_79 := g_b hG (a := 77) (i := 7) (lo := 0) (hi := 500) rfl rfl
  have z_80 := RS_b q3 (a := a) (by omega)
  refine to_an (pc := 0) rw_213_0 rfl ?_
  refine s_gR (pc := 1) rw_213_1 hG rfl (v := 102) rfl ?_
  refine to_in (pc := 4) rw_213_4 rfl ?_
  refine to_an (pc := 5) rw_213_5 rfl ?_
  refine s_v (pc := 6) rw_213_6 (dp0 hd (by decide)) (ls0 := [.ref 77, .null, .null]) rfl (Nat.le_of_ble_eq_true rfl) (Nat.le_of_ble_eq_true rfl) rfl (to_rc rfl rfl rfl (g_o hG rfl)) rfl ?_
  refine E_211 hX (dp1 hd (by decide)) hG q3 (by omega) (t := t) (nn := nn) (a := a) (fun r81 M88 hG83 F82 p_84 p_85 p_86 p_87 => ?_)
  have F89 := FR.c F0 F82 tg_158
  refine s_ias (pc := 9) rw_213_9 hG83 rfl (n := 40) rfl (A := e.toInt) rfl (by omega) (by omega) (fun M91 W90 => ?_)
  have hG92 := g_w hG83 W90 (A := r81.toInt) rfl (lo := -1) (hi := 99) rfl rfl (by omega) (by decide)
  have F93 := FR.w F89 W90 (show 102 = 77 ∧ ((e.toInt).toNat = 4 ∨ (e.toInt).toNat = 5 ∨ 7 ≤ (e.toInt).toNat ∧ (e.toInt).toNat ≤ 10) ∨ 102 ≤ 102 ∧ 102 ≤ 104 ∨ 102 = 106 ∨ 102 = 107 by omega)
  refine to_an (pc := 10) rw_213_10 rfl ?_
  refine s_gR (pc := 11) rw_213_11 hG92 rfl (v := 102) rfl ?_
  refine to_in (pc := 14) rw_213_14 rfl ?_
  refine s_ialk (pc := 15) rw_213_15 hG92 rfl (n := 40) rfl rfl (A := e.toInt) rfl (by omega) (by omega) (v := r81) (W_e W90) ?_
  refine b_ige (pc := 16) rw_213_16 (A := r81.toInt) rfl (fun h96 => ?_) (fun h96 => ?_)
  · refine to_an (pc := 21) rw_213_21 rfl ?_
    refine s_v (pc := 22) rw_213_22 (dp0 hd (by decide)) (ls0 := [.ref 77]) rfl (Nat.le_of_ble_eq_true rfl) (Nat.le_of_ble_eq_true rfl) rfl (to_rc rfl rfl rfl (g_o hG92 rfl)) rfl ?_
    have c_97 : M91.2.1 77 7 = (M.2.1 77 7) := (W_n W90 (fun z => absurd z.1 (by decide)) (F_n F82 (show ¬ (77 = 77 ∧ (7 = 4 ∨ 7 = 5)) by decide) rfl))
    have t_98 : (M91.2.1 77 7).toInt = (M.2.1 77 7).toInt := congrArg Int32.toInt c_97
    have c_99 : M91.2.1 77 6 = (M.2.1 77 6) := (W_n W90 (fun z => absurd z.1 (by decide)) (F_n F82 (show ¬ (77 = 77 ∧ (6 = 4 ∨ 6 = 5)) by decide) rfl))
    have t_100 : (M91.2.1 77 6).toInt = (M.2.1 77 6).toInt := congrArg Int32.toInt c_99
    have c_101 : M91.2.1 77 10 = (M.2.1 77 10) := (W_n W90 (fun z => absurd z.1 (by decide)) (F_n F82 (show ¬ (77 = 77 ∧ (10 = 4 ∨ 10 = 5)) by decide) rfl))
    have t_102 : (M91.2.1 77 10).toInt = (M.2.1 77 10).toInt := congrArg Int32.toInt c_101
    have j_103 := (RS_f (fun a i z => W_n W90 (tg_160 a i _ z) rfl) (RS_f (tg_40 F82) q3))
    have z_104 := RS_b j_103 (a := a) (by omega)
    have j_105 := (TR_f (fun a i z => W_n W90 (tg_161 a i _ z) rfl) (TR_f (tg_41 F82) q7))
    have j_106 := (W9_f (fun a i z => W_n W90 (tg_162 a i _ z) rfl) (W9_f (tg_43 F82) q8))
    refine E_156 hX (dp1 hd (by decide)) hG92 (by omega) (by omega) (by omega) (by omega) j_105 j_106  (fun M113 hG108 F107 p_109 p_110 p_111 p_112 => ?_)
    have F114 := FR.c F93 F107 tg_159
    have b_115 := g_b hG108 (a := 77) (i := 7) (lo := 0) (hi := 500) rfl rfl
    have c_116 : M113.2.1 77 6 = (M.2.1 77 6) := (F_n F107 (show ¬ (77 = 77 ∧ 7 ≤ 6 ∧ 6 ≤ 10) by decide) c_99)
    have t_117 : (M113.2.1 77 6).toInt = (M.2.1 77 6).toInt := congrArg Int32.toInt c_116
    have b_118 := g_b hG108 (a := 77) (i := 8) (lo := 0) (hi := 5) rfl rfl
    have z_119 : x_wps t nn sg a (x_ww t nn sg 1 n9 op A9) = x_wy2 t nn 8 (x_ns t nn a) (fun c => x_wp t nn c (fun d => x_wp t nn d (fun e => x_wy2 t nn 9 e (fun g => x_wnd t nn sg g (x_ww t nn sg 1 n9 op A9))))) := p_wp (by omega)
    have b_120 := g_b hG108 (a := 77) (i := 10) (lo := 0) (hi := 500) rfl rfl
    have z_121 := RS_s p_112.2 (a := a) (by omega)
    have z_122 := x_ns_b (t := t) (n := nn) (a := a) (by omega) (by omega)
    refine to_an (pc := 25) rw_213_25 rfl ?_
    refine to_c (pc := 26) rw_213_26 (x := (8 : Int32)) rfl rfl ?_
    refine s_v (pc := 28) rw_213_28 (dp0 hd (by decide)) (ls0 := [.ref 77, .int (8 : Int32)]) rfl (Nat.le_of_ble_eq_true rfl) (Nat.le_of_ble_eq_true rfl) rfl (to_rc rfl rfl rfl (g_o hG108 rfl)) rfl ?_
    have k_123 : (8 : Int32).toInt = 8 := rfl
    have j_124 := (TR_f (tg_42 F107) j_105)
    have j_125 := (W9_f (tg_44 F107) j_106)
    refine E_161 hX (dp1 hd (by decide)) hG108 p_112.1 (by omega) (by omega) (by omega) j_124 j_125 (by omega) (by omega) (c := (8 : Int32)) (t := t) (nn := nn) (a := (x_ns t nn a)) (fun r126 M135 hG128 F127 p_129 p_130 p_131 p_132 p_133 p_134 => ?_)
    have F136 := FR.c F114 F127 tg_157
    have b_137 := g_b hG128 (a := 77) (i := 10) (lo := 0) (hi := 500) rfl rfl
    rcases (show r126.toInt = 0 ∨ r126.toInt = 1 by omega) with h138 | h138
    · skip
      have p_139 := p_133 (by omega)
      have p_140 := p_134 (by omega)
      clear p_132 p_133 p_134
      have z_141 : x_wps t nn sg a (x_ww t nn sg 1 n9 op A9) = Sum.inl (1, (x_ns t nn a)) := z_119.trans (p_wyx (by omega))
      refine b_ine_f (pc := 31) rw_213_31 (A := r126.toInt) rfl (by omega) ?_
      refine to_c (pc := 34) rw_213_34 (x := (0 : Int32)) rfl rfl ?_
      refine s_r1 (pc := 35) rw_213_35 (A := 0) rfl (by decide) ?_
      have k_142 : (0 : Int32).toInt = 0 := rfl
      exact h (0 : Int32) M135 hG128 F136 (by decide) (by decide) (fun z => by exfalso; omega) (fun r i z z2 => (F_n F127 (show ¬ (r = 77 ∧ (i = 4 ∨ i = 5 ∨ 7 ≤ i ∧ i ≤ 10)) by omega) (F_n F107 (show ¬ (r = 77 ∧ 7 ≤ i ∧ i ≤ 10) by omega) (W_n W90 (by omega) (F_n F82 (show ¬ (r = 77 ∧ (i = 4 ∨ i = 5)) by omega) rfl))))) (fun z => by exfalso; omega) (fun _ => winl (by omega) (by omega) z_141)
    · skip
      have p_143 := p_132 (by omega)
      clear p_132 p_133 p_134
      have z_144 : x_wps t nn sg a (x_ww t nn sg 1 n9 op A9) = x_wp t nn (x_ns t nn (x_ns t nn a)) (fun d => x_wp t nn d (fun e => x_wy2 t nn 9 e (fun g => x_wnd t nn sg g (x_ww t nn sg 1 n9 op A9)))) := z_119.trans (p_wy (by omega))
      have z_145 := x_ns_b (t := t) (n := nn) (a := (x_ns t nn a)) (by omega) (by omega)
      refine b_ine_t (pc := 31) rw_213_31 (A := r126.toInt) rfl (by omega) ?_
      refine to_an (pc := 36) rw_213_36 rfl ?_
      refine s_gR (pc := 37) rw_213_37 hG128 rfl (v := 103) rfl ?_
      refine to_in (pc := 40) rw_213_40 rfl ?_
      refine to_an (pc := 41) rw_213_41 rfl ?_
      refine s_v (pc := 42) rw_213_42 (dp0 hd (by decide)) (ls0 := [.ref 77, .null, .null]) rfl (Nat.le_of_ble_eq_true rfl) (Nat.le_of_ble_eq_true rfl) rfl (to_rc rfl rfl rfl (g_o hG128 rfl)) rfl ?_
      refine E_211 hX (dp1 hd (by decide)) hG128 p_131 (by omega) (t := t) (nn := nn) (a := (x_ns t nn (x_ns t nn a))) (fun r146 M153 hG148 F147 p_149 p_150 p_151 p_152 => ?_)
      have F154 := FR.c F136 F147 tg_158
      refine s_ias (pc := 45) rw_213_45 hG148 rfl (n := 40) rfl (A := e.toInt) rfl (by omega) (by omega) (fun M156 W155 => ?_)
      have hG157 := g_w hG148 W155 (A := r146.toInt) rfl (lo := -1) (hi := 5) rfl rfl (by omega) (by decide)
      have F158 := FR.w F154 W155 (show 103 = 77 ∧ ((e.toInt).toNat = 4 ∨ (e.toInt).toNat = 5 ∨ 7 ≤ (e.toInt).toNat ∧ (e.toInt).toNat ≤ 10) ∨ 102 ≤ 103 ∧ 103 ≤ 104 ∨ 103 = 106 ∨ 103 = 107 by omega)
      refine to_an (pc := 46) rw_213_46 rfl ?_
      refine s_gR (pc := 47) rw_213_47 hG157 rfl (v := 103) rfl ?_
      refine to_in (pc := 50) rw_213_50 rfl ?_
      refine s_ialk (pc := 51) rw_213_51 hG157 rfl (n := 40) rfl rfl (A := e.toInt) rfl (by omega) (by omega) (v := r146) (W_e W155) ?_
      refine b_ige (pc := 52) rw_213_52 (A := r146.toInt) rfl (fun h161 => ?_) (fun h161 => ?_)
      · refine to_an (pc := 57) rw_213_57 rfl ?_
        refine s_v (pc := 58) rw_213_58 (dp0 hd (by decide)) (ls0 := [.ref 77]) rfl (Nat.le_of_ble_eq_true rfl) (Nat.le_of_ble_eq_true rfl) rfl (to_rc rfl rfl rfl (g_o hG157 rfl)) rfl ?_
        have c_162 : M156.2.1 77 7 = (M135.2.1 77 7) := (W_n W155 (fun z => absurd z.1 (by decide)) (F_n F147 (show ¬ (77 = 77 ∧ (7 = 4 ∨ 7 = 5)) by decide) rfl))
        have b_163 := g_b hG128 (a := 77) (i := 7) (lo := 0) (hi := 500) rfl rfl
        have t_164 : (M156.2.1 77 7).toInt = (M135.2.1 77 7).toInt := congrArg Int32.toInt c_162
        have c_165 : M156.2.1 77 6 = (M.2.1 77 6) := (W_n W155 (fun z => absurd z.1 (by decide)) (F_n F147 (show ¬ (77 = 77 ∧ (6 = 4 ∨ 6 = 5)) by decide) (F_n F127 (show ¬ (77 = 77 ∧ (6 = 4 ∨ 6 = 5 ∨ 7 ≤ 6 ∧ 6 ≤ 10)) by decide) c_116)))
        have t_166 : (M156.2.1 77 6).toInt = (M.2.1 77 6).toInt := congrArg Int32.toInt c_165
        have c_167 : M156.2.1 77 10 = (M135.2.1 77 10) := (W_n W155 (fun z => absurd z.1 (by decide)) (F_n F147 (show ¬ (77 = 77 ∧ (10 = 4 ∨ 10 = 5)) by decide) rfl))
        have t_168 : (M156.2.1 77 10).toInt = (M135.2.1 77 10).toInt := congrArg Int32.toInt c_167
        have j_169 := (RS_f (fun a i z => W_n W155 (tg_163 a i _ z) rfl) (RS_f (tg_40 F147) p_131))
        have z_170 := RS_b j_169 (a := (x_ns t nn (x_ns t nn a))) (by omega)
        have j_171 := (TR_f (fun a i z => W_n W155 (tg_164 a i _ z) rfl) (TR_f (tg_41 F147) (TR_f (tg_152 F127) j_124)))
        have j_172 := (W9_f (fun a i z => W_n W155 (tg_165 a i _ z) rfl) (W9_f (tg_43 F147) (W9_f (tg_153 F127) j_125)))
        refine E_156 hX (dp1 hd (by decide)) hG157 (by omega) (by omega) (by omega) (by omega) j_171 j_172  (fun M179 hG174 F173 p_175 p_176 p_177 p_178 => ?_)
        have F180 := FR.c F158 F173 tg_159
        have b_181 := g_b hG174 (a := 77) (i := 7) (lo := 0) (hi := 500) rfl rfl
        have c_182 : M179.2.1 77 6 = (M.2.1 77 6) := (F_n F173 (show ¬ (77 = 77 ∧ 7 ≤ 6 ∧ 6 ≤ 10) by decide) c_165)
        have t_183 : (M179.2.1 77 6).toInt = (M.2.1 77 6).toInt := congrArg Int32.toInt c_182
        have b_184 := g_b hG174 (a := 77) (i := 8) (lo := 0) (hi := 5) rfl rfl
        have z_185 : x_wps t nn sg a (x_ww t nn sg 1 n9 op A9) = x_wp t nn (x_ns t nn (x_ns t nn (x_ns t nn a))) (fun e => x_wy2 t nn 9 e (fun g => x_wnd t nn sg g (x_ww t nn sg 1 n9 op A9))) := z_144.trans (p_wp (by omega))
        have b_186 := g_b hG174 (a := 77) (i := 10) (lo := 0) (hi := 500) rfl rfl
        have z_187 := RS_s p_178.2 (a := (x_ns t nn (x_ns t nn a))) (by omega)
        have z_188 := x_ns_b (t := t) (n := nn) (a := (x_ns t nn (x_ns t nn a))) (by omega) (by omega)
        refine to_an (pc := 61) rw_213_61 rfl ?_
        refine s_gR (pc := 62) rw_213_62 hG174 rfl (v := 104) rfl ?_
        refine to_in (pc := 65) rw_213_65 rfl ?_
        refine to_an (pc := 66) rw_213_66 rfl ?_
        refine s_v (pc := 67) rw_213_67 (dp0 hd (by decide)) (ls0 := [.ref 77, .null, .null]) rfl (Nat.le_of_ble_eq_true rfl) (Nat.le_of_ble_eq_true rfl) rfl (to_rc rfl rfl rfl (g_o hG174 rfl)) rfl ?_
        refine E_211 hX (dp1 hd (by decide)) hG174 p_178.1 (by omega) (t := t) (nn := nn) (a := (x_ns t nn (x_ns t nn (x_ns t nn a)))) (fun r189 M196 hG191 F190 p_192 p_193 p_194 p_195 => ?_)
        have F197 := FR.c F180 F190 tg_158
        refine s_ias (pc := 70) rw_213_70 hG191 rfl (n := 40) rfl (A := e.toInt) rfl (by omega) (by omega) (fun M199 W198 => ?_)
        have hG200 := g_w hG191 W198 (A := r189.toInt) rfl (lo := -1) (hi := 5) rfl rfl (by omega) (by decide)
        have F201 := FR.w F197 W198 (show 104 = 77 ∧ ((e.toInt).toNat = 4 ∨ (e.toInt).toNat = 5 ∨ 7 ≤ (e.toInt).toNat ∧ (e.toInt).toNat ≤ 10) ∨ 102 ≤ 104 ∧ 104 ≤ 104 ∨ 104 = 106 ∨ 104 = 107 by omega)
        refine to_an (pc := 71) rw_213_71 rfl ?_
        refine s_gR (pc := 72) rw_213_72 hG200 rfl (v := 104) rfl ?_
        refine to_in (pc := 75) rw_213_75 rfl ?_
        refine s_ialk (pc := 76) rw_213_76 hG200 rfl (n := 40) rfl rfl (A := e.toInt) rfl (by omega) (by omega) (v := r189) (W_e W198) ?_
        refine b_ige (pc := 77) rw_213_77 (A := r189.toInt) rfl (fun h204 => ?_) (fun h204 => ?_)
        · refine to_an (pc := 82) rw_213_82 rfl ?_
          refine s_v (pc := 83) rw_213_83 (dp0 hd (by decide)) (ls0 := [.ref 77]) rfl (Nat.le_of_ble_eq_true rfl) (Nat.le_of_ble_eq_true rfl) rfl (to_rc rfl rfl rfl (g_o hG200 rfl)) rfl ?_
          have c_205 : M199.2.1 77 7 = (M179.2.1 77 7) := (W_n W198 (fun z => absurd z.1 (by decide)) (F_n F190 (show ¬ (77 = 77 ∧ (7 = 4 ∨ 7 = 5)) by decide) rfl))
          have t_206 : (M199.2.1 77 7).toInt = (M179.2.1 77 7).toInt := congrArg Int32.toInt c_205
          have c_207 : M199.2.1 77 6 = (M.2.1 77 6) := (W_n W198 (fun z => absurd z.1 (by decide)) (F_n F190 (show ¬ (77 = 77 ∧ (6 = 4 ∨ 6 = 5)) by decide) c_182))
          have t_208 : (M199.2.1 77 6).toInt = (M.2.1 77 6).toInt := congrArg Int32.toInt c_207
          have c_209 : M199.2.1 77 10 = (M179.2.1 77 10) := (W_n W198 (fun z => absurd z.1 (by decide)) (F_n F190 (show ¬ (77 = 77 ∧ (10 = 4 ∨ 10 = 5)) by decide) rfl))
          have t_210 : (M199.2.1 77 10).toInt = (M179.2.1 77 10).toInt := congrArg Int32.toInt c_209
          have j_211 := (RS_f (fun a i z => W_n W198 (tg_166 a i _ z) rfl) (RS_f (tg_40 F190) p_178.1))
          have z_212 := RS_b j_211 (a := (x_ns t nn (x_ns t nn (x_ns t nn a)))) (by omega)
          have j_213 := (TR_f (fun a i z => W_n W198 (tg_167 a i _ z) rfl) (TR_f (tg_41 F190) (TR_f (tg_42 F173) j_171)))
          have j_214 := (W9_f (fun a i z => W_n W198 (tg_168 a i _ z) rfl) (W9_f (tg_43 F190) (W9_f (tg_44 F173) j_172)))
          refine E_156 hX (dp1 hd (by decide)) hG200 (by omega) (by omega) (by omega) (by omega) j_213 j_214  (fun M221 hG216 F215 p_217 p_218 p_219 p_220 => ?_)
          have F222 := FR.c F201 F215 tg_159
          have b_223 := g_b hG216 (a := 77) (i := 7) (lo := 0) (hi := 500) rfl rfl
          have c_224 : M221.2.1 77 6 = (M.2.1 77 6) := (F_n F215 (show ¬ (77 = 77 ∧ 7 ≤ 6 ∧ 6 ≤ 10) by decide) c_207)
          have t_225 : (M221.2.1 77 6).toInt = (M.2.1 77 6).toInt := congrArg Int32.toInt c_224
          have b_226 := g_b hG216 (a := 77) (i := 8) (lo := 0) (hi := 5) rfl rfl
          have z_227 : x_wps t nn sg a (x_ww t nn sg 1 n9 op A9) = x_wy2 t nn 9 (x_ns t nn (x_ns t nn (x_ns t nn (x_ns t nn a)))) (fun g => x_wnd t nn sg g (x_ww t nn sg 1 n9 op A9)) := z_185.trans (p_wp (by omega))
          have b_228 := g_b hG216 (a := 77) (i := 10) (lo := 0) (hi := 500) rfl rfl
          have z_229 := RS_s p_220.2 (a := (x_ns t nn (x_ns t nn (x_ns t nn a)))) (by omega)
          have z_230 := x_ns_b (t := t) (n := nn) (a := (x_ns t nn (x_ns t nn (x_ns t nn a)))) (by omega) (by omega)
          refine to_an (pc := 86) rw_213_86 rfl ?_
          refine to_c (pc := 87) rw_213_87 (x := (9 : Int32)) rfl rfl ?_
          refine s_v (pc := 89) rw_213_89 (dp0 hd (by decide)) (ls0 := [.ref 77, .int (9 : Int32)]) rfl (Nat.le_of_ble_eq_true rfl) (Nat.le_of_ble_eq_true rfl) rfl (to_rc rfl rfl rfl (g_o hG216 rfl)) rfl ?_
          have k_231 : (9 : Int32).toInt = 9 := rfl
          have j_232 := (TR_f (tg_42 F215) j_213)
          have j_233 := (W9_f (tg_44 F215) j_214)
          refine E_161 hX (dp1 hd (by decide)) hG216 p_220.1 (by omega) (by omega) (by omega) j_232 j_233 (by omega) (by omega) (c := (9 : Int32)) (t := t) (nn := nn) (a := (x_ns t nn (x_ns t nn (x_ns t nn (x_ns t nn a))))) (fun r234 M243 hG236 F235 p_237 p_238 p_239 p_240 p_241 p_242 => ?_)
          have F244 := FR.c F222 F235 tg_157
          have b_245 := g_b hG236 (a := 77) (i := 10) (lo := 0) (hi := 500) rfl rfl
          rcases (show r234.toInt = 0 ∨ r234.toInt = 1 by omega) with h246 | h246
          · skip
            have p_247 := p_241 (by omega)
            have p_248 := p_242 (by omega)
            clear p_240 p_241 p_242
            have z_249 : x_wps t nn sg a (x_ww t nn sg 1 n9 op A9) = Sum.inl (1, (x_ns t nn (x_ns t nn (x_ns t nn (x_ns t nn a))))) := z_227.trans (p_wyx (by omega))
            refine b_ine_f (pc := 92) rw_213_92 (A := r234.toInt) rfl (by omega) ?_
            refine to_c (pc := 95) rw_213_95 (x := (0 : Int32)) rfl rfl ?_
            refine s_r1 (pc := 96) rw_213_96 (A := 0) rfl (by decide) ?_
            have k_250 : (0 : Int32).toInt = 0 := rfl
            exact h (0 : Int32) M243 hG236 F244 (by decide) (by decide) (fun z => by exfalso; omega) (fun r i z z2 => (F_n F235 (show ¬ (r = 77 ∧ (i = 4 ∨ i = 5 ∨ 7 ≤ i ∧ i ≤ 10)) by omega) (F_n F215 (show ¬ (r = 77 ∧ 7 ≤ i ∧ i ≤ 10) by omega) (W_n W198 (by omega) (F_n F190 (show ¬ (r = 77 ∧ (i = 4 ∨ i = 5)) by omega) (F_n F173 (show ¬ (r = 77 ∧ 7 ≤ i ∧ i ≤ 10) by omega) (W_n W155 (by omega) (F_n F147 (show ¬ (r = 77 ∧ (i = 4 ∨ i = 5)) by omega) (F_n F127 (show ¬ (r = 77 ∧ (i = 4 ∨ i = 5 ∨ 7 ≤ i ∧ i ≤ 10)) by omega) (F_n F107 (show ¬ (r = 77 ∧ 7 ≤ i ∧ i ≤ 10) by omega) (W_n W90 (by omega) (F_n F82 (show ¬ (r = 77 ∧ (i = 4 ∨ i = 5)) by omega) rfl)))))))))))) (fun z => by exfalso; omega) (fun _ => winl (by omega) (by omega) z_249)
          · skip
            have p_251 := p_240 (by omega)
            clear p_240 p_241 p_242
            have z_252 : x_wps t nn sg a (x_ww t nn sg 1 n9 op A9) = x_wnd t nn sg (x_ns t nn (x_ns t nn (x_ns t nn (x_ns t nn (x_ns t nn a))))) (x_ww t nn sg 1 n9 op A9) := z_227.trans (p_wy (by omega))
            have z_253 := x_ns_b (t := t) (n := nn) (a := (x_ns t nn (x_ns t nn (x_ns t nn (x_ns t nn a))))) (by omega) (by omega)
            refine b_ine_t (pc := 92) rw_213_92 (A := r234.toInt) rfl (by omega) ?_
            have b_254 := g_b hG236 (a := 77) (i := 8) (lo := 0) (hi := 5) rfl rfl
            have z_255 := RS_k p_239 (a := (x_ns t nn (x_ns t nn (x_ns t nn (x_ns t nn (x_ns t nn a)))))) (by omega)
            refine to_an (pc := 97) rw_213_97 rfl ?_
            refine tt_gI (pc := 98) rw_213_98 (g_o hG236 rfl) (v := (M243.2.1 77 8)) rfl ?_
            refine to_c (pc := 101) rw_213_101 (x := (3 : Int32)) rfl rfl ?_
            refine b_ceq (pc := 102) rw_213_102 (A := (M243.2.1 77 8).toInt) (B := 3) rfl rfl (fun h256 => ?_) (fun h256 => ?_)
            · refine to_an (pc := 119) rw_213_119 rfl ?_
              refine s_gR (pc := 120) rw_213_120 hG236 rfl (v := 106) rfl ?_
              refine to_in (pc := 123) rw_213_123 rfl ?_
              refine to_cl (pc := 124) rw_213_124 rfl (x := (0 : Int64)) rfl ?_
              refine s_las (pc := 125) rw_213_125 hG236 rfl (n := 40) rfl (A := e.toInt) rfl (by omega) (by omega) (fun M258 W257 => ?_)
              have hG259 := g_wl hG236 W257
              have F260 := FR.wl F244 W257 (show 106 = 77 ∧ ((e.toInt).toNat = 4 ∨ (e.toInt).toNat = 5 ∨ 7 ≤ (e.toInt).toNat ∧ (e.toInt).toNat ≤ 10) ∨ 102 ≤ 106 ∧ 106 ≤ 104 ∨ 106 = 106 ∨ 106 = 107 by omega)
              refine to_an (pc := 126) rw_213_126 rfl ?_
              refine s_gR (pc := 127) rw_213_127 hG259 rfl (v := 107) rfl ?_
              refine to_in (pc := 130) rw_213_130 rfl ?_
              refine to_c (pc := 131) rw_213_131 (x := (0 : Int32)) rfl rfl ?_
              refine s_ias (pc := 132) rw_213_132 hG259 rfl (n := 40) rfl (A := e.toInt) rfl (by omega) (by omega) (fun M262 W261 => ?_)
              have hG263 := g_wf hG259 W261 rfl rfl (by decide)
              have F264 := FR.w F260 W261 (show 107 = 77 ∧ ((e.toInt).toNat = 4 ∨ (e.toInt).toNat = 5 ∨ 7 ≤ (e.toInt).toNat ∧ (e.toInt).toNat ≤ 10) ∨ 102 ≤ 107 ∧ 107 ≤ 104 ∨ 107 = 106 ∨ 107 = 107 by omega)
              have j_265 := (RS_f (fun a i z => W_n W261 (tg_148 a i _ z) rfl) (RS_f (fun a i z => W_l W257 rfl) p_239))
              have j_266 := (TR_f (fun a i z => W_n W261 (tg_169 a i _ z) rfl) (TR_f (fun a i z => W_l W257 rfl) (TR_f (tg_152 F235) j_232)))
              have j_267 := (W9_f (fun a i z => W_n W261 (tg_170 a i _ z) rfl) (W9_f (fun a i z => W_l W257 rfl) (W9_f (tg_153 F235) j_233)))
              have j_268 := (PLk_f (fun a i z => W_n W261 (tg_171 a i _ z) rfl) (PLk_f (fun a i z => W_l W257 rfl) (PLk_f (tg_154 F235) (PLk_f (tg_145 F215) (PLk_f (fun a i z => W_n W198 (tg_172 a i _ z) rfl) (PLk_f (tg_155 F190) (PLk_f (tg_145 F173) (PLk_f (fun a i z => W_n W155 (tg_173 a i _ z) rfl) (PLk_f (tg_155 F147) (PLk_f (tg_154 F127) (PLk_f (tg_145 F107) (PLk_f (fun a i z => W_n W90 (tg_174 a i _ z) rfl) (PLk_f (tg_155 F82) q9)))))))))))))
              have c_269 : M262.2.1 77 10 = (M243.2.1 77 10) := (W_n W261 (fun z => absurd z.1 (by decide)) (W_l W257 rfl))
              have t_270 : (M262.2.1 77 10).toInt = (M243.2.1 77 10).toInt := congrArg Int32.toInt c_269
              exact (U_213_0 (e := e) (t := t) (nn := nn) (a := a) (sg := sg) (n9 := n9) (op := op) (A9 := A9) hX hd q1 q2 q3 q4 q5 q6 q7 q8 q9 h ((501 - (M262.2.1 77 10).toInt).toNat + 1)) M262  hG263 F264 j_265 (by omega) (by omega) j_266 j_267 j_268 (fun r i z z2 => (W_n W261 (by omega) (W_l W257 (F_n F235 (show ¬ (r = 77 ∧ (i = 4 ∨ i = 5 ∨ 7 ≤ i ∧ i ≤ 10)) by omega) (F_n F215 (show ¬ (r = 77 ∧ 7 ≤ i ∧ i ≤ 10) by omega) (W_n W198 (by omega) (F_n F190 (show ¬ (r = 77 ∧ (i = 4 ∨ i = 5)) by omega) (F_n F173 (show ¬ (r = 77 ∧ 7 ≤ i ∧ i ≤ 10) by omega) (W_n W155 (by omega) (F_n F147 (show ¬ (r = 77 ∧ (i = 4 ∨ i = 5)) by omega) (F_n F127 (show ¬ (r = 77 ∧ (i = 4 ∨ i = 5 ∨ 7 ≤ i ∧ i ≤ 10)) by omega) (F_n F107 (show ¬ (r = 77 ∧ 7 ≤ i ∧ i ≤ 10) by omega) (W_n W90 (by omega) (F_n F82 (show ¬ (r = 77 ∧ (i = 4 ∨ i = 5)) by omega) rfl)))))))))))))) ((z_252.trans (w1_n (n := n9) (op := op) (A := A9) (by omega) (by omega) (by omega)).symm).trans (w_v rfl (by omega))) (by omega)
            · refine to_an (pc := 105) rw_213_105 rfl ?_
              refine tt_gI (pc := 106) rw_213_106 (g_o hG236 rfl) (v := (M243.2.1 77 8)) rfl ?_
              refine to_c (pc := 109) rw_213_109 (x := (2 : Int32)) rfl rfl ?_
              refine b_ceq (pc := 110) rw_213_110 (A := (M243.2.1 77 8).toInt) (B := 2) rfl rfl (fun h271 => ?_) (fun h271 => ?_)
              · refine to_an (pc := 119) rw_213_119 rfl ?_
                refine s_gR (pc := 120) rw_213_120 hG236 rfl (v := 106) rfl ?_
                refine to_in (pc := 123) rw_213_123 rfl ?_
                refine to_cl (pc := 124) rw_213_124 rfl (x := (0 : Int64)) rfl ?_
                refine s_las (pc := 125) rw_213_125 hG236 rfl (n := 40) rfl (A := e.toInt) rfl (by omega) (by omega) (fun M273 W272 => ?_)
                have hG274 := g_wl hG236 W272
                have F275 := FR.wl F244 W272 (show 106 = 77 ∧ ((e.toInt).toNat = 4 ∨ (e.toInt).toNat = 5 ∨ 7 ≤ (e.toInt).toNat ∧ (e.toInt).toNat ≤ 10) ∨ 102 ≤ 106 ∧ 106 ≤ 104 ∨ 106 = 106 ∨ 106 = 107 by omega)
                refine to_an (pc := 126) rw_213_126 rfl ?_
                refine s_gR (pc := 127) rw_213_127 hG274 rfl (v := 107) rfl ?_
                refine to_in (pc := 130) rw_213_130 rfl ?_
                refine to_c (pc := 131) rw_213_131 (x := (0 : Int32)) rfl rfl ?_
                refine s_ias (pc := 132) rw_213_132 hG274 rfl (n := 40) rfl (A := e.toInt) rfl (by omega) (by omega) (fun M277 W276 => ?_)
                have hG278 := g_wf hG274 W276 rfl rfl (by decide)
                have F279 := FR.w F275 W276 (show 107 = 77 ∧ ((e.toInt).toNat = 4 ∨ (e.toInt).toNat = 5 ∨ 7 ≤ (e.toInt).toNat ∧ (e.toInt).toNat ≤ 10) ∨ 102 ≤ 107 ∧ 107 ≤ 104 ∨ 107 = 106 ∨ 107 = 107 by omega)
                have j_280 := (RS_f (fun a i z => W_n W276 (tg_148 a i _ z) rfl) (RS_f (fun a i z => W_l W272 rfl) p_239))
                have j_281 := (TR_f (fun a i z => W_n W276 (tg_169 a i _ z) rfl) (TR_f (fun a i z => W_l W272 rfl) (TR_f (tg_152 F235) j_232)))
                have j_282 := (W9_f (fun a i z => W_n W276 (tg_170 a i _ z) rfl) (W9_f (fun a i z => W_l W272 rfl) (W9_f (tg_153 F235) j_233)))
                have j_283 := (PLk_f (fun a i z => W_n W276 (tg_171 a i _ z) rfl) (PLk_f (fun a i z => W_l W272 rfl) (PLk_f (tg_154 F235) (PLk_f (tg_145 F215) (PLk_f (fun a i z => W_n W198 (tg_172 a i _ z) rfl) (PLk_f (tg_155 F190) (PLk_f (tg_145 F173) (PLk_f (fun a i z => W_n W155 (tg_173 a i _ z) rfl) (PLk_f (tg_155 F147) (PLk_f (tg_154 F127) (PLk_f (tg_145 F107) (PLk_f (fun a i z => W_n W90 (tg_174 a i _ z) rfl) (PLk_f (tg_155 F82) q9)))))))))))))
                have c_284 : M277.2.1 77 10 = (M243.2.1 77 10) := (W_n W276 (fun z => absurd z.1 (by decide)) (W_l W272 rfl))
                have t_285 : (M277.2.1 77 10).toInt = (M243.2.1 77 10).toInt := congrArg Int32.toInt c_284
                exact (U_213_0 (e := e) (t := t) (nn := nn) (a := a) (sg := sg) (n9 := n9) (op := op) (A9 := A9) hX hd q1 q2 q3 q4 q5 q6 q7 q8 q9 h ((501 - (M277.2.1 77 10).toInt).toNat + 1)) M277  hG278 F279 j_280 (by omega) (by omega) j_281 j_282 j_283 (fun r i z z2 => (W_n W276 (by omega) (W_l W272 (F_n F235 (show ¬ (r = 77 ∧ (i = 4 ∨ i = 5 ∨ 7 ≤ i ∧ i ≤ 10)) by omega) (F_n F215 (show ¬ (r = 77 ∧ 7 ≤ i ∧ i ≤ 10) by omega) (W_n W198 (by omega) (F_n F190 (show ¬ (r = 77 ∧ (i = 4 ∨ i = 5)) by omega) (F_n F173 (show ¬ (r = 77 ∧ 7 ≤ i ∧ i ≤ 10) by omega) (W_n W155 (by omega) (F_n F147 (show ¬ (r = 77 ∧ (i = 4 ∨ i = 5)) by omega) (F_n F127 (show ¬ (r = 77 ∧ (i = 4 ∨ i = 5 ∨ 7 ≤ i ∧ i ≤ 10)) by omega) (F_n F107 (show ¬ (r = 77 ∧ 7 ≤ i ∧ i ≤ 10) by omega) (W_n W90 (by omega) (F_n F82 (show ¬ (r = 77 ∧ (i = 4 ∨ i = 5)) by omega) rfl)))))))))))))) ((z_252.trans (w1_n (n := n9) (op := op) (A := A9) (by omega) (by omega) (by omega)).symm).trans (w_v rfl (by omega))) (by omega)
              · refine to_an (pc := 113) rw_213_113 rfl ?_
                refine to_c (pc := 114) rw_213_114 (x := (1 : Int32)) rfl rfl ?_
                refine s_v (pc := 115) rw_213_115 (dp0 hd (by decide)) (ls0 := [.ref 77, .int (1 : Int32)]) rfl (Nat.le_of_ble_eq_true rfl) (Nat.le_of_ble_eq_true rfl) rfl (to_rc rfl rfl rfl (g_o hG236 rfl)) rfl ?_
                refine to_an (pc := 0) rw_152_0 rfl ?_
                refine to_in (pc := 1) rw_152_1 rfl ?_
                refine s_pI (pc := 2) rw_152_2 hG236 rfl (fun M287 W286 => ?_)
                have hG288 := g_wf hG236 W286 rfl rfl (by decide)
                have F289 := FR.w F244 W286 (show 77 = 77 ∧ (4 = 4 ∨ 4 = 5 ∨ 7 ≤ 4 ∧ 4 ≤ 10) ∨ 102 ≤ 77 ∧ 77 ≤ 104 ∨ 77 = 106 ∨ 77 = 107 by decide)
                refine to_an (pc := 5) rw_152_5 rfl ?_
                refine to_an (pc := 6) rw_152_6 rfl ?_
                have c_290 : M287.2.1 77 10 = (M243.2.1 77 10) := (W_n W286 (by decide) rfl)
                refine tt_gI (pc := 7) rw_152_7 (g_o hG288 rfl) (v := (M243.2.1 77 10)) c_290 ?_
                refine s_pI (pc := 10) rw_152_10 hG288 rfl (fun M292 W291 => ?_)
                have hG293 := g_wf hG288 W291 rfl rfl (by decide)
                have F294 := FR.w F289 W291 (show 77 = 77 ∧ (5 = 4 ∨ 5 = 5 ∨ 7 ≤ 5 ∧ 5 ≤ 10) ∨ 102 ≤ 77 ∧ 77 ≤ 104 ∨ 77 = 106 ∨ 77 = 107 by decide)
                refine to_c (pc := 13) rw_152_13 (x := (0 : Int32)) rfl rfl ?_
                refine s_r1 (pc := 14) rw_152_14 (A := 0) rfl (by decide) ?_
                refine s_r1 (pc := 118) rw_213_118 (A := 0) rfl (by decide) ?_
                have k_295 : (0 : Int32).toInt = 0 := rfl
                have c_296 : M292.2.1 77 4 = (1 : Int32) := (W_n W291 (by decide) (W_e W286))
                have k_297 : (1 : Int32).toInt = 1 := rfl
                have t_298 : (M292.2.1 77 4).toInt = (1 : Int32).toInt := congrArg Int32.toInt c_296
                have c_299 : M292.2.1 77 5 = (M243.2.1 77 10) := (W_e W291)
                have t_300 : (M292.2.1 77 5).toInt = (M243.2.1 77 10).toInt := congrArg Int32.toInt c_299
                have z_301 : x_wps t nn sg a (x_ww t nn sg 1 n9 op A9) = Sum.inl (1, (x_ns t nn (x_ns t nn (x_ns t nn (x_ns t nn (x_ns t nn a)))))) := z_252.trans ((p_ndn (by omega)).trans (p_nb1 (by omega)))
                exact h (0 : Int32) M292 hG293 F294 (by decide) (by decide) (fun z => by exfalso; omega) (fun r i z z2 => (W_n W291 (by omega) (W_n W286 (by omega) (F_n F235 (show ¬ (r = 77 ∧ (i = 4 ∨ i = 5 ∨ 7 ≤ i ∧ i ≤ 10)) by omega) (F_n F215 (show ¬ (r = 77 ∧ 7 ≤ i ∧ i ≤ 10) by omega) (W_n W198 (by omega) (F_n F190 (show ¬ (r = 77 ∧ (i = 4 ∨ i = 5)) by omega) (F_n F173 (show ¬ (r = 77 ∧ 7 ≤ i ∧ i ≤ 10) by omega) (W_n W155 (by omega) (F_n F147 (show ¬ (r = 77 ∧ (i = 4 ∨ i = 5)) by omega) (F_n F127 (show ¬ (r = 77 ∧ (i = 4 ∨ i = 5 ∨ 7 ≤ i ∧ i ≤ 10)) by omega) (F_n F107 (show ¬ (r = 77 ∧ 7 ≤ i ∧ i ≤ 10) by omega) (W_n W90 (by omega) (F_n F82 (show ¬ (r = 77 ∧ (i = 4 ∨ i = 5)) by omega) rfl)))))))))))))) (fun z => by exfalso; omega) (fun _ => winl (by omega) (by omega) z_301)
        · refine to_c (pc := 80) rw_213_80 (x := (0 : Int32)) rfl rfl ?_
          refine s_r1 (pc := 81) rw_213_81 (A := 0) rfl (by decide) ?_
          have k_302 : (0 : Int32).toInt = 0 := rfl
          have c_303 : M199.2.1 77 4 = (M196.2.1 77 4) := (W_n W198 (fun z => absurd z.1 (by decide)) rfl)
          have t_304 : (M199.2.1 77 4).toInt = (M196.2.1 77 4).toInt := congrArg Int32.toInt c_303
          have c_305 : M199.2.1 77 5 = (M196.2.1 77 5) := (W_n W198 (fun z => absurd z.1 (by decide)) rfl)
          have t_306 : (M199.2.1 77 5).toInt = (M196.2.1 77 5).toInt := congrArg Int32.toInt c_305
          have z_307 : x_wps t nn sg a (x_ww t nn sg 1 n9 op A9) = Sum.inl (1, (x_ns t nn (x_ns t nn (x_ns t nn a)))) := z_185.trans (p_wpx (by omega))
          exact h (0 : Int32) M199 hG200 F201 (by decide) (by decide) (fun z => by exfalso; omega) (fun r i z z2 => (W_n W198 (by omega) (F_n F190 (show ¬ (r = 77 ∧ (i = 4 ∨ i = 5)) by omega) (F_n F173 (show ¬ (r = 77 ∧ 7 ≤ i ∧ i ≤ 10) by omega) (W_n W155 (by omega) (F_n F147 (show ¬ (r = 77 ∧ (i = 4 ∨ i = 5)) by omega) (F_n F127 (show ¬ (r = 77 ∧ (i = 4 ∨ i = 5 ∨ 7 ≤ i ∧ i ≤ 10)) by omega) (F_n F107 (show ¬ (r = 77 ∧ 7 ≤ i ∧ i ≤ 10) by omega) (W_n W90 (by omega) (F_n F82 (show ¬ (r = 77 ∧ (i = 4 ∨ i = 5)) by omega) rfl)))))))))) (fun z => by exfalso; omega) (fun _ => winl (by omega) (by omega) z_307)
      · refine to_c (pc := 55) rw_213_55 (x := (0 : Int32)) rfl rfl ?_
        refine s_r1 (pc := 56) rw_213_56 (A := 0) rfl (by decide) ?_
        have k_308 : (0 : Int32).toInt = 0 := rfl
        have c_309 : M156.2.1 77 4 = (M153.2.1 77 4) := (W_n W155 (fun z => absurd z.1 (by decide)) rfl)
        have t_310 : (M156.2.1 77 4).toInt = (M153.2.1 77 4).toInt := congrArg Int32.toInt c_309
        have c_311 : M156.2.1 77 5 = (M153.2.1 77 5) := (W_n W155 (fun z => absurd z.1 (by decide)) rfl)
        have t_312 : (M156.2.1 77 5).toInt = (M153.2.1 77 5).toInt := congrArg Int32.toInt c_311
        have z_313 : x_wps t nn sg a (x_ww t nn sg 1 n9 op A9) = Sum.inl (1, (x_ns t nn (x_ns t nn a))) := z_144.trans (p_wpx (by omega))
        exact h (0 : Int32) M156 hG157 F158 (by decide) (by decide) (fun z => by exfalso; omega) (fun r i z z2 => (W_n W155 (by omega) (F_n F147 (show ¬ (r = 77 ∧ (i = 4 ∨ i = 5)) by omega) (F_n F127 (show ¬ (r = 77 ∧ (i = 4 ∨ i = 5 ∨ 7 ≤ i ∧ i ≤ 10)) by omega) (F_n F107 (show ¬ (r = 77 ∧ 7 ≤ i ∧ i ≤ 10) by omega) (W_n W90 (by omega) (F_n F82 (show ¬ (r = 77 ∧ (i = 4 ∨ i = 5)) by omega) rfl))))))) (fun z => by exfalso; omega) (fun _ => winl (by omega) (by omega) z_313)
  · refine to_c (pc := 19) rw_213_19 (x := (0 : Int32)) rfl rfl ?_
    refine s_r1 (pc := 20) rw_213_20 (A := 0) rfl (by decide) ?_
    have k_314 : (0 : Int32).toInt = 0 := rfl
    have c_315 : M91.2.1 77 4 = (M88.2.1 77 4) := (W_n W90 (fun z => absurd z.1 (by decide)) rfl)
    have t_316 : (M91.2.1 77 4).toInt = (M88.2.1 77 4).toInt := congrArg Int32.toInt c_315
    have c_317 : M91.2.1 77 5 = (M88.2.1 77 5) := (W_n W90 (fun z => absurd z.1 (by decide)) rfl)
    have t_318 : (M91.2.1 77 5).toInt = (M88.2.1 77 5).toInt := congrArg Int32.toInt c_317
    have z_319 : x_wps t nn sg a (x_ww t nn sg 1 n9 op A9) = Sum.inl (1, a) := p_wpx (by omega)
    exact h (0 : Int32) M91 hG92 F93 (by decide) (by decide) (fun z => by exfalso; omega) (fun r i z z2 => (W_n W90 (by omega) (F_n F82 (show ¬ (r = 77 ∧ (i = 4 ∨ i = 5)) by omega) rfl))) (fun z => by exfalso; omega) (fun _ => winl (by omega) (by omega) z_319)
set_option maxRecDepth 4000 in
set_option maxHeartbeats 0 in
theorem E_214 {X : mm_X} {d : Nat} {M : mm_M} {Q : Option Value → mm_M → Prop} {e : Int32} {t : Nat → Int} {nn : Int} {a : Int} (hX : g_X X) (hd : 3 ≤ d) (hG : g_G M) (q1 : 0 ≤ e.toInt) (q2 : e.toInt ≤ 39) (q3 : RS M t nn) (q4 : (M.2.1 77 10).toInt = a) (q5 : 0 ≤ nn) (q6 : nn ≤ 500) (q7 : TR M t nn) (q8 : W9 M) (h : ∀ (r : Int32) (M1 : mm_M), g_G M1 → FR md_ps M M1 → (0 ≤ r.toInt) → (r.toInt ≤ 1) → ((r.toInt = 1 → RS M1 t nn)) → (∀ r i : Nat, (102 ≤ r ∧ r ≤ 104) → ¬ i = (e.toInt).toNat → M1.2.1 r i = M.2.1 r i) → ((r.toInt = 1 → ∀ k : Int → x_WR, x_wjn t nn a k = k (M1.2.1 77 10).toInt)) → ((r.toInt = 0 → ∀ k : Int → x_WR, x_wjn t nn a k = Sum.inl ((M1.2.1 77 4).toInt, (M1.2.1 77 5).toInt))) → Q (some (.int r)) M1) : mm_T X d 213 0 [.ref 77, .int e] [] M Q := by
  have F0 : FR md_ps M M := FR.rf
  have b_1 := g_b hG (a := 77) (i := 10) (lo := 0) (hi := 500) rfl rfl
  have b_2 := g_b hG (a := 77) (i := 6) (lo := 0) (hi := 500) rfl rfl
  have b_3 := g_b hG (a := 77) (i := 7) (lo := 0) (hi := 500) rfl rfl
  have z_4 := RS_b q3 (a := a) (by omega)
  have z_5 := x_pk_b (t := t) (nn := nn) (a := a)
  have z_6 := x_pk_b (t := t) (nn := nn) (a := (x_ns t nn a))
  refine to_an (pc := 0) rw_214_0 rfl ?_
  refine s_gR (pc := 1) rw_214_1 hG rfl (v := 102) rfl ?_
  refine to_in (pc := 4) rw_214_4 rfl ?_
  refine to_an (pc := 5) rw_214_5 rfl ?_
  refine s_v (pc := 6) rw_214_6 (dp0 hd (by decide)) (ls0 := [.ref 77, .null, .null]) rfl (Nat.le_of_ble_eq_true rfl) (Nat.le_of_ble_eq_true rfl) rfl (to_rc rfl rfl rfl (g_o hG rfl)) rfl ?_
  refine E_211 hX (dp1 hd (by decide)) hG q3 (by omega) (t := t) (nn := nn) (a := a) (fun r7 M14 hG9 F8 p_10 p_11 p_12 p_13 => ?_)
  have F15 := FR.c F0 F8 tg_158
  refine s_ias (pc := 9) rw_214_9 hG9 rfl (n := 40) rfl (A := e.toInt) rfl (by omega) (by omega) (fun M17 W16 => ?_)
  have hG18 := g_w hG9 W16 (A := r7.toInt) rfl (lo := -1) (hi := 99) rfl rfl (by omega) (by decide)
  have F19 := FR.w F15 W16 (show 102 = 77 ∧ ((e.toInt).toNat = 4 ∨ (e.toInt).toNat = 5 ∨ 7 ≤ (e.toInt).toNat ∧ (e.toInt).toNat ≤ 10) ∨ 102 ≤ 102 ∧ 102 ≤ 104 ∨ 102 = 106 ∨ 102 = 107 by omega)
  refine to_an (pc := 10) rw_214_10 rfl ?_
  refine s_gR (pc := 11) rw_214_11 hG18 rfl (v := 102) rfl ?_
  refine to_in (pc := 14) rw_214_14 rfl ?_
  refine s_ialk (pc := 15) rw_214_15 hG18 rfl (n := 40) rfl rfl (A := e.toInt) rfl (by omega) (by omega) (v := r7) (W_e W16) ?_
  refine b_ige (pc := 16) rw_214_16 (A := r7.toInt) rfl (fun h22 => ?_) (fun h22 => ?_)
  · refine to_an (pc := 21) rw_214_21 rfl ?_
    refine s_v (pc := 22) rw_214_22 (dp0 hd (by decide)) (ls0 := [.ref 77]) rfl (Nat.le_of_ble_eq_true rfl) (Nat.le_of_ble_eq_true rfl) rfl (to_rc rfl rfl rfl (g_o hG18 rfl)) rfl ?_
    have c_23 : M17.2.1 77 7 = (M.2.1 77 7) := (W_n W16 (fun z => absurd z.1 (by decide)) (F_n F8 (show ¬ (77 = 77 ∧ (7 = 4 ∨ 7 = 5)) by decide) rfl))
    have t_24 : (M17.2.1 77 7).toInt = (M.2.1 77 7).toInt := congrArg Int32.toInt c_23
    have c_25 : M17.2.1 77 6 = (M.2.1 77 6) := (W_n W16 (fun z => absurd z.1 (by decide)) (F_n F8 (show ¬ (77 = 77 ∧ (6 = 4 ∨ 6 = 5)) by decide) rfl))
    have t_26 : (M17.2.1 77 6).toInt = (M.2.1 77 6).toInt := congrArg Int32.toInt c_25
    have c_27 : M17.2.1 77 10 = (M.2.1 77 10) := (W_n W16 (fun z => absurd z.1 (by decide)) (F_n F8 (show ¬ (77 = 77 ∧ (10 = 4 ∨ 10 = 5)) by decide) rfl))
    have t_28 : (M17.2.1 77 10).toInt = (M.2.1 77 10).toInt := congrArg Int32.toInt c_27
    have j_29 := (RS_f (fun a i z => W_n W16 (tg_160 a i _ z) rfl) (RS_f (tg_40 F8) q3))
    have z_30 := RS_b j_29 (a := a) (by omega)
    have j_31 := (TR_f (fun a i z => W_n W16 (tg_161 a i _ z) rfl) (TR_f (tg_41 F8) q7))
    have j_32 := (W9_f (fun a i z => W_n W16 (tg_162 a i _ z) rfl) (W9_f (tg_43 F8) q8))
    refine E_156 hX (dp1 hd (by decide)) hG18 (by omega) (by omega) (by omega) (by omega) j_31 j_32  (fun M39 hG34 F33 p_35 p_36 p_37 p_38 => ?_)
    have F40 := FR.c F19 F33 tg_159
    have b_41 := g_b hG34 (a := 77) (i := 7) (lo := 0) (hi := 500) rfl rfl
    have c_42 : M39.2.1 77 6 = (M.2.1 77 6) := (F_n F33 (show ¬ (77 = 77 ∧ 7 ≤ 6 ∧ 6 ≤ 10) by decide) c_25)
    have t_43 : (M39.2.1 77 6).toInt = (M.2.1 77 6).toInt := congrArg Int32.toInt c_42
    have b_44 := g_b hG34 (a := 77) (i := 8) (lo := 0) (hi := 5) rfl rfl
    have b_45 := g_b hG34 (a := 77) (i := 10) (lo := 0) (hi := 500) rfl rfl
    have z_46 := RS_s p_38.2 (a := a) (by omega)
    refine to_an (pc := 25) rw_214_25 rfl ?_
    refine s_gR (pc := 26) rw_214_26 hG34 rfl (v := 103) rfl ?_
    refine to_in (pc := 29) rw_214_29 rfl ?_
    refine to_an (pc := 30) rw_214_30 rfl ?_
    refine s_v (pc := 31) rw_214_31 (dp0 hd (by decide)) (ls0 := [.ref 77, .null, .null]) rfl (Nat.le_of_ble_eq_true rfl) (Nat.le_of_ble_eq_true rfl) rfl (to_rc rfl rfl rfl (g_o hG34 rfl)) rfl ?_
    refine E_211 hX (dp1 hd (by decide)) hG34 p_38.1 (by omega) (t := t) (nn := nn) (a := (x_ns t nn a)) (fun r47 M54 hG49 F48 p_50 p_51 p_52 p_53 => ?_)
    have F55 := FR.c F40 F48 tg_158
    refine s_ias (pc := 34) rw_214_34 hG49 rfl (n := 40) rfl (A := e.toInt) rfl (by omega) (by omega) (fun M57 W56 => ?_)
    have hG58 := g_w hG49 W56 (A := r47.toInt) rfl (lo := -1) (hi := 5) rfl rfl (by omega) (by decide)
    have F59 := FR.w F55 W56 (show 103 = 77 ∧ ((e.toInt).toNat = 4 ∨ (e.toInt).toNat = 5 ∨ 7 ≤ (e.toInt).toNat ∧ (e.toInt).toNat ≤ 10) ∨ 102 ≤ 103 ∧ 103 ≤ 104 ∨ 103 = 106 ∨ 103 = 107 by omega)
    refine to_an (pc := 35) rw_214_35 rfl ?_
    refine s_gR (pc := 36) rw_214_36 hG58 rfl (v := 103) rfl ?_
    refine to_in (pc := 39) rw_214_39 rfl ?_
    refine s_ialk (pc := 40) rw_214_40 hG58 rfl (n := 40) rfl rfl (A := e.toInt) rfl (by omega) (by omega) (v := r47) (W_e W56) ?_
    refine b_ige (pc := 41) rw_214_41 (A := r47.toInt) rfl (fun h62 => ?_) (fun h62 => ?_)
    · refine to_an (pc := 46) rw_214_46 rfl ?_
      refine s_gR (pc := 47) rw_214_47 hG58 rfl (v := 103) rfl ?_
      refine to_in (pc := 50) rw_214_50 rfl ?_
      refine s_ialk (pc := 51) rw_214_51 hG58 rfl (n := 40) rfl rfl (A := e.toInt) rfl (by omega) (by omega) (v := r47) (W_e W56) ?_
      refine to_an (pc := 52) rw_214_52 rfl ?_
      refine s_gR (pc := 53) rw_214_53 hG58 rfl (v := 102) rfl ?_
      refine to_in (pc := 56) rw_214_56 rfl ?_
      refine s_ialk (pc := 57) rw_214_57 hG58 rfl (n := 40) rfl rfl (A := e.toInt) rfl (by omega) (by omega) (v := r7) (W_n W56 (by omega) (F_n F48 (show ¬ (102 = 77 ∧ ((e.toInt).toNat = 4 ∨ (e.toInt).toNat = 5)) by omega) (F_n F33 (show ¬ (102 = 77 ∧ 7 ≤ (e.toInt).toNat ∧ (e.toInt).toNat ≤ 10) by omega) (W_e W16)))) ?_
      refine b_cne (pc := 58) rw_214_58 (A := r47.toInt) (B := r7.toInt) rfl rfl (fun h67 => ?_) (fun h67 => ?_)
      · refine to_an (pc := 67) rw_214_67 rfl ?_
        refine s_v (pc := 68) rw_214_68 (dp0 hd (by decide)) (ls0 := [.ref 77]) rfl (Nat.le_of_ble_eq_true rfl) (Nat.le_of_ble_eq_true rfl) rfl (to_rc rfl rfl rfl (g_o hG58 rfl)) rfl ?_
        have c_68 : M57.2.1 77 7 = (M39.2.1 77 7) := (W_n W56 (fun z => absurd z.1 (by decide)) (F_n F48 (show ¬ (77 = 77 ∧ (7 = 4 ∨ 7 = 5)) by decide) rfl))
        have t_69 : (M57.2.1 77 7).toInt = (M39.2.1 77 7).toInt := congrArg Int32.toInt c_68
        have c_70 : M57.2.1 77 6 = (M.2.1 77 6) := (W_n W56 (fun z => absurd z.1 (by decide)) (F_n F48 (show ¬ (77 = 77 ∧ (6 = 4 ∨ 6 = 5)) by decide) c_42))
        have t_71 : (M57.2.1 77 6).toInt = (M.2.1 77 6).toInt := congrArg Int32.toInt c_70
        have c_72 : M57.2.1 77 10 = (M39.2.1 77 10) := (W_n W56 (fun z => absurd z.1 (by decide)) (F_n F48 (show ¬ (77 = 77 ∧ (10 = 4 ∨ 10 = 5)) by decide) rfl))
        have t_73 : (M57.2.1 77 10).toInt = (M39.2.1 77 10).toInt := congrArg Int32.toInt c_72
        have j_74 := (RS_f (fun a i z => W_n W56 (tg_163 a i _ z) rfl) (RS_f (tg_40 F48) p_38.1))
        have z_75 := RS_b j_74 (a := (x_ns t nn a)) (by omega)
        have j_76 := (TR_f (fun a i z => W_n W56 (tg_164 a i _ z) rfl) (TR_f (tg_41 F48) (TR_f (tg_42 F33) j_31)))
        have j_77 := (W9_f (fun a i z => W_n W56 (tg_165 a i _ z) rfl) (W9_f (tg_43 F48) (W9_f (tg_44 F33) j_32)))
        refine E_156 hX (dp1 hd (by decide)) hG58 (by omega) (by omega) (by omega) (by omega) j_76 j_77  (fun M84 hG79 F78 p_80 p_81 p_82 p_83 => ?_)
        have F85 := FR.c F59 F78 tg_159
        have b_86 := g_b hG79 (a := 77) (i := 7) (lo := 0) (hi := 500) rfl rfl
        have c_87 : M84.2.1 77 6 = (M.2.1 77 6) := (F_n F78 (show ¬ (77 = 77 ∧ 7 ≤ 6 ∧ 6 ≤ 10) by decide) c_70)
        have t_88 : (M84.2.1 77 6).toInt = (M.2.1 77 6).toInt := congrArg Int32.toInt c_87
        have b_89 := g_b hG79 (a := 77) (i := 8) (lo := 0) (hi := 5) rfl rfl
        have b_90 := g_b hG79 (a := 77) (i := 10) (lo := 0) (hi := 500) rfl rfl
        have z_91 := RS_s p_83.2 (a := (x_ns t nn a)) (by omega)
        refine to_an (pc := 71) rw_214_71 rfl ?_
        refine to_c (pc := 72) rw_214_72 (x := (59 : Int32)) rfl rfl ?_
        refine s_v (pc := 74) rw_214_74 (dp0 hd (by decide)) (ls0 := [.ref 77, .int (59 : Int32)]) rfl (Nat.le_of_ble_eq_true rfl) (Nat.le_of_ble_eq_true rfl) rfl (to_rc rfl rfl rfl (g_o hG79 rfl)) rfl ?_
        have k_92 : (59 : Int32).toInt = 59 := rfl
        have j_93 := (TR_f (tg_42 F78) j_76)
        have j_94 := (W9_f (tg_44 F78) j_77)
        refine E_160w hX (dp1 hd (by decide)) hG79 p_83.1 (by omega) (by omega) (by omega) j_93 j_94 (by omega) (c := (59 : Int32)) (t := t) (nn := nn) (a := (x_ns t nn (x_ns t nn a))) (fun r95 M104 hG97 F96 p_98 p_99 p_100 p_101 p_102 p_103 => ?_)
        have F105 := FR.c F85 F96 tg_157
        have b_106 := g_b hG97 (a := 77) (i := 10) (lo := 0) (hi := 500) rfl rfl
        rcases (show r95.toInt = 0 ∨ r95.toInt = 1 by omega) with h107 | h107
        · skip
          have p_108 := p_102 (by omega)
          have p_109 := p_103 (by omega)
          clear p_101 p_102 p_103
          refine s_r1 (pc := 77) rw_214_77 (A := r95.toInt) rfl (by omega) ?_
          exact h r95 M104 hG97 F105 (by omega) (by omega) (fun z => by exfalso; omega) (fun r i z z2 => (F_n F96 (show ¬ (r = 77 ∧ (i = 4 ∨ i = 5 ∨ 7 ≤ i ∧ i ≤ 10)) by omega) (F_n F78 (show ¬ (r = 77 ∧ 7 ≤ i ∧ i ≤ 10) by omega) (W_n W56 (by omega) (F_n F48 (show ¬ (r = 77 ∧ (i = 4 ∨ i = 5)) by omega) (F_n F33 (show ¬ (r = 77 ∧ 7 ≤ i ∧ i ≤ 10) by omega) (W_n W16 (by omega) (F_n F8 (show ¬ (r = 77 ∧ (i = 4 ∨ i = 5)) by omega) rfl)))))))) (fun z => by exfalso; omega) (fun _ k9 => winl (by omega) (by omega) (wj_4 (by omega) (by omega) (by omega) (by omega)))
        · skip
          have p_110 := p_101 (by omega)
          clear p_101 p_102 p_103
          refine s_r1 (pc := 77) rw_214_77 (A := r95.toInt) rfl (by omega) ?_
          exact h r95 M104 hG97 F105 (by omega) (by omega) (fun _ => p_100) (fun r i z z2 => (F_n F96 (show ¬ (r = 77 ∧ (i = 4 ∨ i = 5 ∨ 7 ≤ i ∧ i ≤ 10)) by omega) (F_n F78 (show ¬ (r = 77 ∧ 7 ≤ i ∧ i ≤ 10) by omega) (W_n W56 (by omega) (F_n F48 (show ¬ (r = 77 ∧ (i = 4 ∨ i = 5)) by omega) (F_n F33 (show ¬ (r = 77 ∧ 7 ≤ i ∧ i ≤ 10) by omega) (W_n W16 (by omega) (F_n F8 (show ¬ (r = 77 ∧ (i = 4 ∨ i = 5)) by omega) rfl)))))))) (fun _ k9 => by rw [show (M104.2.1 77 10).toInt = (x_ns t nn (x_ns t nn (x_ns t nn a))) by omega]; exact wj_y (by omega) (by omega) (by omega) (by omega)) (fun z => by exfalso; omega)
      · refine to_an (pc := 61) rw_214_61 rfl ?_
        refine to_c (pc := 62) rw_214_62 (x := (3 : Int32)) rfl rfl ?_
        refine s_v (pc := 63) rw_214_63 (dp0 hd (by decide)) (ls0 := [.ref 77, .int (3 : Int32)]) rfl (Nat.le_of_ble_eq_true rfl) (Nat.le_of_ble_eq_true rfl) rfl (to_rc rfl rfl rfl (g_o hG58 rfl)) rfl ?_
        refine to_an (pc := 0) rw_152_0 rfl ?_
        refine to_in (pc := 1) rw_152_1 rfl ?_
        refine s_pI (pc := 2) rw_152_2 hG58 rfl (fun M112 W111 => ?_)
        have hG113 := g_wf hG58 W111 rfl rfl (by decide)
        have F114 := FR.w F59 W111 (show 77 = 77 ∧ (4 = 4 ∨ 4 = 5 ∨ 7 ≤ 4 ∧ 4 ≤ 10) ∨ 102 ≤ 77 ∧ 77 ≤ 104 ∨ 77 = 106 ∨ 77 = 107 by decide)
        refine to_an (pc := 5) rw_152_5 rfl ?_
        refine to_an (pc := 6) rw_152_6 rfl ?_
        have c_115 : M112.2.1 77 10 = (M39.2.1 77 10) := (W_n W111 (by decide) (W_n W56 (fun z => absurd z.1 (by decide)) (F_n F48 (show ¬ (77 = 77 ∧ (10 = 4 ∨ 10 = 5)) by decide) rfl)))
        refine tt_gI (pc := 7) rw_152_7 (g_o hG113 rfl) (v := (M39.2.1 77 10)) c_115 ?_
        refine s_pI (pc := 10) rw_152_10 hG113 rfl (fun M117 W116 => ?_)
        have hG118 := g_wf hG113 W116 rfl rfl (by decide)
        have F119 := FR.w F114 W116 (show 77 = 77 ∧ (5 = 4 ∨ 5 = 5 ∨ 7 ≤ 5 ∧ 5 ≤ 10) ∨ 102 ≤ 77 ∧ 77 ≤ 104 ∨ 77 = 106 ∨ 77 = 107 by decide)
        refine to_c (pc := 13) rw_152_13 (x := (0 : Int32)) rfl rfl ?_
        refine s_r1 (pc := 14) rw_152_14 (A := 0) rfl (by decide) ?_
        refine s_r1 (pc := 66) rw_214_66 (A := 0) rfl (by decide) ?_
        have k_120 : (0 : Int32).toInt = 0 := rfl
        have c_121 : M117.2.1 77 4 = (3 : Int32) := (W_n W116 (by decide) (W_e W111))
        have k_122 : (3 : Int32).toInt = 3 := rfl
        have t_123 : (M117.2.1 77 4).toInt = (3 : Int32).toInt := congrArg Int32.toInt c_121
        have c_124 : M117.2.1 77 5 = (M39.2.1 77 10) := (W_e W116)
        have t_125 : (M117.2.1 77 5).toInt = (M39.2.1 77 10).toInt := congrArg Int32.toInt c_124
        exact h (0 : Int32) M117 hG118 F119 (by decide) (by decide) (fun z => by exfalso; omega) (fun r i z z2 => (W_n W116 (by omega) (W_n W111 (by omega) (W_n W56 (by omega) (F_n F48 (show ¬ (r = 77 ∧ (i = 4 ∨ i = 5)) by omega) (F_n F33 (show ¬ (r = 77 ∧ 7 ≤ i ∧ i ≤ 10) by omega) (W_n W16 (by omega) (F_n F8 (show ¬ (r = 77 ∧ (i = 4 ∨ i = 5)) by omega) rfl)))))))) (fun z => by exfalso; omega) (fun _ k9 => winl (by omega) (by omega) (wj_3 (by omega) (by omega) (by omega)))
    · refine to_c (pc := 44) rw_214_44 (x := (0 : Int32)) rfl rfl ?_
      refine s_r1 (pc := 45) rw_214_45 (A := 0) rfl (by decide) ?_
      have k_126 : (0 : Int32).toInt = 0 := rfl
      have c_127 : M57.2.1 77 4 = (M54.2.1 77 4) := (W_n W56 (fun z => absurd z.1 (by decide)) rfl)
      have t_128 : (M57.2.1 77 4).toInt = (M54.2.1 77 4).toInt := congrArg Int32.toInt c_127
      have c_129 : M57.2.1 77 5 = (M54.2.1 77 5) := (W_n W56 (fun z => absurd z.1 (by decide)) rfl)
      have t_130 : (M57.2.1 77 5).toInt = (M54.2.1 77 5).toInt := congrArg Int32.toInt c_129
      exact h (0 : Int32) M57 hG58 F59 (by decide) (by decide) (fun z => by exfalso; omega) (fun r i z z2 => (W_n W56 (by omega) (F_n F48 (show ¬ (r = 77 ∧ (i = 4 ∨ i = 5)) by omega) (F_n F33 (show ¬ (r = 77 ∧ 7 ≤ i ∧ i ≤ 10) by omega) (W_n W16 (by omega) (F_n F8 (show ¬ (r = 77 ∧ (i = 4 ∨ i = 5)) by omega) rfl)))))) (fun z => by exfalso; omega) (fun _ k9 => winl (by omega) (by omega) (wj_2 (by omega) (by omega)))
  · refine to_c (pc := 19) rw_214_19 (x := (0 : Int32)) rfl rfl ?_
    refine s_r1 (pc := 20) rw_214_20 (A := 0) rfl (by decide) ?_
    have k_131 : (0 : Int32).toInt = 0 := rfl
    have c_132 : M17.2.1 77 4 = (M14.2.1 77 4) := (W_n W16 (fun z => absurd z.1 (by decide)) rfl)
    have t_133 : (M17.2.1 77 4).toInt = (M14.2.1 77 4).toInt := congrArg Int32.toInt c_132
    have c_134 : M17.2.1 77 5 = (M14.2.1 77 5) := (W_n W16 (fun z => absurd z.1 (by decide)) rfl)
    have t_135 : (M17.2.1 77 5).toInt = (M14.2.1 77 5).toInt := congrArg Int32.toInt c_134
    exact h (0 : Int32) M17 hG18 F19 (by decide) (by decide) (fun z => by exfalso; omega) (fun r i z z2 => (W_n W16 (by omega) (F_n F8 (show ¬ (r = 77 ∧ (i = 4 ∨ i = 5)) by omega) rfl))) (fun z => by exfalso; omega) (fun _ k9 => winl (by omega) (by omega) (wj_1 (by omega)))
