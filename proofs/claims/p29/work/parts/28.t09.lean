theorem tg_178 {M M1 : mm_M} (F : FR (fun a i : Nat => a = 77 ∧ (i = 4 ∨ i = 5 ∨ 7 ≤ i ∧ i ≤ 10) ∨ a = 106 ∨ a = 107) M M1) : ∀ a i : Nat, a = 78 → M1.2.1 a i = M.2.1 a i := fun a i z => F_n F (show ¬ (a = 77 ∧ (i = 4 ∨ i = 5 ∨ 7 ≤ i ∧ i ≤ 10) ∨ a = 106 ∨ a = 107) by omega) rfl
theorem tg_179 {M M1 : mm_M} (F : FR (fun a i : Nat => a = 77 ∧ (i = 4 ∨ i = 5 ∨ 7 ≤ i ∧ i ≤ 10) ∨ a = 106 ∨ a = 107) M M1) : ∀ a i : Nat, a = 79 → M1.2.1 a i = M.2.1 a i := fun a i z => F_n F (show ¬ (a = 77 ∧ (i = 4 ∨ i = 5 ∨ 7 ≤ i ∧ i ≤ 10) ∨ a = 106 ∨ a = 107) by omega) rfl
theorem tg_180 {M M1 : mm_M} (F : FR (fun a i : Nat => a = 77 ∧ (i = 4 ∨ i = 5 ∨ 7 ≤ i ∧ i ≤ 10) ∨ a = 106 ∨ a = 107) M M1) : ∀ a i : Nat, (a = 77 ∧ 11 ≤ i ∧ i ≤ 13 ∨ 80 ≤ a ∧ a ≤ 84 ∧ i < 8 ∨ 85 ≤ a ∧ a ≤ 86 ∧ i < 12) → M1.2.1 a i = M.2.1 a i := fun a i z => F_n F (show ¬ (a = 77 ∧ (i = 4 ∨ i = 5 ∨ 7 ≤ i ∧ i ≤ 10) ∨ a = 106 ∨ a = 107) by omega) rfl
theorem tg_181 {M M1 : mm_M} (F : FR (fun a i : Nat => a = 77 ∧ (i = 4 ∨ i = 5 ∨ 7 ≤ i ∧ i ≤ 10)) M M1) : ∀ a i : Nat, a = 78 → M1.2.1 a i = M.2.1 a i := fun a i z => F_n F (show ¬ (a = 77 ∧ (i = 4 ∨ i = 5 ∨ 7 ≤ i ∧ i ≤ 10)) by omega) rfl
theorem tg_182 {M M1 : mm_M} (F : FR (fun a i : Nat => a = 77 ∧ (i = 4 ∨ i = 5 ∨ 7 ≤ i ∧ i ≤ 10)) M M1) : ∀ a i : Nat, a = 79 → M1.2.1 a i = M.2.1 a i := fun a i z => F_n F (show ¬ (a = 77 ∧ (i = 4 ∨ i = 5 ∨ 7 ≤ i ∧ i ≤ 10)) by omega) rfl
theorem tg_183 {M M1 : mm_M} (F : FR (fun a i : Nat => a = 77 ∧ (i = 4 ∨ i = 5 ∨ 7 ≤ i ∧ i ≤ 10)) M M1) : ∀ a i : Nat, (a = 77 ∧ 11 ≤ i ∧ i ≤ 13 ∨ 80 ≤ a ∧ a ≤ 84 ∧ i < 8 ∨ 85 ≤ a ∧ a ≤ 86 ∧ i < 12) → M1.2.1 a i = M.2.1 a i := fun a i z => F_n F (show ¬ (a = 77 ∧ (i = 4 ∨ i = 5 ∨ 7 ≤ i ∧ i ≤ 10)) by omega) rfl
theorem tg_184 {M M1 : mm_M} (F : FR (fun a i : Nat => a = 77 ∧ (i = 4 ∨ i = 5)) M M1) : ∀ a i : Nat, (a = 77 ∧ 11 ≤ i ∧ i ≤ 13 ∨ 80 ≤ a ∧ a ≤ 84 ∧ i < 8 ∨ 85 ≤ a ∧ a ≤ 86 ∧ i < 12) → M1.2.1 a i = M.2.1 a i := fun a i z => F_n F (show ¬ (a = 77 ∧ (i = 4 ∨ i = 5)) by omega) rfl
theorem tg_185 : ∀ a i : Nat, (a = 77 ∧ (i = 4 ∨ i = 5 ∨ 7 ≤ i ∧ i ≤ 10) ∨ a = 106 ∨ a = 107) → (a = 77 ∧ (i = 4 ∨ i = 5 ∨ 7 ≤ i ∧ i ≤ 10) ∨ 102 ≤ a ∧ a ≤ 104 ∨ a = 106 ∨ a = 107) := fun a i z => by omega
theorem tg_186 : ∀ a i : Nat, (a = 77 ∧ (i = 4 ∨ i = 5 ∨ 7 ≤ i ∧ i ≤ 10)) → (a = 77 ∧ (i = 4 ∨ i = 5 ∨ 7 ≤ i ∧ i ≤ 10) ∨ 102 ≤ a ∧ a ≤ 104 ∨ a = 106 ∨ a = 107) := fun a i z => by omega
theorem tg_187 : ∀ a i : Nat, (a = 77 ∧ (i = 4 ∨ i = 5)) → (a = 77 ∧ (i = 4 ∨ i = 5 ∨ 7 ≤ i ∧ i ≤ 10) ∨ 102 ≤ a ∧ a ≤ 104 ∨ a = 106 ∨ a = 107) := fun a i z => by omega
theorem tg_188 : ∀ a i : Nat, (a = 77 ∧ 7 ≤ i ∧ i ≤ 10) → (a = 77 ∧ (i = 4 ∨ i = 5 ∨ 7 ≤ i ∧ i ≤ 10) ∨ 102 ≤ a ∧ a ≤ 104 ∨ a = 106 ∨ a = 107) := fun a i z => by omega
theorem tg_189 : ∀ a i j : Nat, (a = 77 ∧ 6 ≤ i ∧ i ≤ 10) → ¬ (a = 102 ∧ i = j) := fun a i j z => by omega
theorem tg_190 : ∀ a i j : Nat, a = 78 → ¬ (a = 102 ∧ i = j) := fun a i j z => by omega
theorem tg_191 : ∀ a i j : Nat, a = 79 → ¬ (a = 102 ∧ i = j) := fun a i j z => by omega
theorem tg_192 : ∀ a i j : Nat, (a = 77 ∧ 6 ≤ i ∧ i ≤ 10) → ¬ (a = 103 ∧ i = j) := fun a i j z => by omega
theorem tg_193 : ∀ a i j : Nat, a = 78 → ¬ (a = 103 ∧ i = j) := fun a i j z => by omega
theorem tg_194 : ∀ a i j : Nat, a = 79 → ¬ (a = 103 ∧ i = j) := fun a i j z => by omega
theorem tg_195 : ∀ a i j : Nat, (a = 77 ∧ 6 ≤ i ∧ i ≤ 10) → ¬ (a = 104 ∧ i = j) := fun a i j z => by omega
theorem tg_196 : ∀ a i j : Nat, a = 78 → ¬ (a = 104 ∧ i = j) := fun a i j z => by omega
theorem tg_197 : ∀ a i j : Nat, a = 79 → ¬ (a = 104 ∧ i = j) := fun a i j z => by omega
theorem tg_198 : ∀ a i j : Nat, a = 78 → ¬ (a = 107 ∧ i = j) := fun a i j z => by omega
theorem tg_199 : ∀ a i j : Nat, a = 79 → ¬ (a = 107 ∧ i = j) := fun a i j z => by omega
theorem tg_200 : ∀ a i j : Nat, (a = 77 ∧ 11 ≤ i ∧ i ≤ 13 ∨ 80 ≤ a ∧ a ≤ 84 ∧ i < 8 ∨ 85 ≤ a ∧ a ≤ 86 ∧ i < 12) → ¬ (a = 107 ∧ i = j) := fun a i j z => by omega
theorem tg_201 : ∀ a i j : Nat, (a = 77 ∧ 11 ≤ i ∧ i ≤ 13 ∨ 80 ≤ a ∧ a ≤ 84 ∧ i < 8 ∨ 85 ≤ a ∧ a ≤ 86 ∧ i < 12) → ¬ (a = 104 ∧ i = j) := fun a i j z => by omega
theorem tg_202 : ∀ a i j : Nat, (a = 77 ∧ 11 ≤ i ∧ i ≤ 13 ∨ 80 ≤ a ∧ a ≤ 84 ∧ i < 8 ∨ 85 ≤ a ∧ a ≤ 86 ∧ i < 12) → ¬ (a = 103 ∧ i = j) := fun a i j z => by omega
theorem tg_203 : ∀ a i j : Nat, (a = 77 ∧ 11 ≤ i ∧ i ≤ 13 ∨ 80 ≤ a ∧ a ≤ 84 ∧ i < 8 ∨ 85 ≤ a ∧ a ≤ 86 ∧ i < 12) → ¬ (a = 102 ∧ i = j) := fun a i j z => by omega
set_option maxRecDepth 4000 in
set_option maxHeartbeats 0 in
theorem U_213_0 {X : mm_X} {d : Nat} {M : mm_M} {Q : Option Value → mm_M → Prop} {e : Int32} {t : Nat → Int} {nn : Int} {a : Int} {sg : x_S} {C9 : Nat → Int64} {n9 : Int} {op : List Int} {A9 : x_A} (hX : g_X X) (hd : 3 ≤ d) (q1 : 0 ≤ e.toInt) (q2 : e.toInt ≤ 39) (q3 : RS M t nn) (q4 : (M.2.1 77 10).toInt = a) (q5 : 0 ≤ nn) (q6 : nn ≤ 500) (q7 : TR M t nn) (q8 : W9 M) (q9 : PLk M sg) (h : ∀ (r : Int32) (M1 : mm_M), g_G M1 → FR md_ps M M1 → (0 ≤ r.toInt) → (r.toInt ≤ 1) → ((r.toInt = 1 → RS M1 t nn)) → (∀ r i : Nat, (102 ≤ r ∧ r ≤ 104) → ¬ i = (e.toInt).toNat → M1.2.1 r i = M.2.1 r i) → (∀ i : Nat, ¬ i = (e.toInt).toNat → M1.2.1 107 i = M.2.1 107 i) → (∀ i : Nat, ¬ i = (e.toInt).toNat → M1.2.2.1 106 i = M.2.2.1 106 i) → ((r.toInt = 1 → (M1.2.1 102 (e.toInt).toNat).toInt = x_kp t nn a ∧ (M1.2.1 103 (e.toInt).toNat).toInt = x_kp t nn (x_ns t nn (x_ns t nn a)) ∧ (M1.2.1 104 (e.toInt).toNat).toInt = x_kp t nn (x_ns t nn (x_ns t nn (x_ns t nn a))) ∧ x_nwl C9 (M1.2.1 107 (e.toInt).toNat) sg.2.2.1.toNat 0 (M1.2.2.1 106 (e.toInt).toNat) = x_ndv t nn sg C9 (x_ns t nn (x_ns t nn (x_ns t nn (x_ns t nn (x_ns t nn a))))) 0)) → ((r.toInt = 1 → x_wps t nn sg a (x_ww t nn sg 1 n9 op A9) = x_ww t nn sg 0 n9 op A9 (M1.2.1 77 10).toInt)) → ((r.toInt = 0 → x_wps t nn sg a (x_ww t nn sg 1 n9 op A9) = Sum.inl ((M1.2.1 77 4).toInt, (M1.2.1 77 5).toInt))) → Q (some (.int r)) M1) : ∀ nn9 : Nat, (∀ (N : mm_M), g_G N → FR md_ps M N → (RS N t nn) → (0 ≤ nn) → (nn ≤ 500) → (TR N t nn) → (W9 N) → (PLk N sg) → (∀ r i : Nat, (102 ≤ r ∧ r ≤ 104) → ¬ i = (e.toInt).toNat → N.2.1 r i = M.2.1 r i) → (∀ i : Nat, ¬ i = (e.toInt).toNat → N.2.1 107 i = M.2.1 107 i) → (∀ i : Nat, ¬ i = (e.toInt).toNat → N.2.2.1 106 i = M.2.2.1 106 i) → ((N.2.1 102 (e.toInt).toNat).toInt = x_kp t nn a ∧ (N.2.1 103 (e.toInt).toNat).toInt = x_kp t nn (x_ns t nn (x_ns t nn a)) ∧ (N.2.1 104 (e.toInt).toNat).toInt = x_kp t nn (x_ns t nn (x_ns t nn (x_ns t nn a)))) → (x_ndv t nn sg C9 (x_ns t nn (x_ns t nn (x_ns t nn (x_ns t nn (x_ns t nn a))))) 0 = x_ndv t nn sg C9 (N.2.1 77 10).toInt (x_nwl C9 (N.2.1 107 (e.toInt).toNat) sg.2.2.1.toNat 0 (N.2.2.1 106 (e.toInt).toNat))) → (x_wps t nn sg a (x_ww t nn sg 1 n9 op A9) = x_ww t nn sg 1 n9 op A9 (N.2.1 77 10).toInt) → 501 - (N.2.1 77 10).toInt < (nn9 : Int) → mm_T X d 212 133 [.ref 77, .int e] [] N Q) := by
  intro nn9
  induction nn9 with
  | zero =>
    intro N hG F0 g1 g2 g3 g4 g5 g6 g7 g8 g9 g10 g11 g12 hm
    have b_1 := g_b hG (a := 77) (i := 10) (lo := 0) (hi := 500) rfl rfl
    exfalso; omega
  | succ nn9 ih =>
    intro N hG F0 g1 g2 g3 g4 g5 g6 g7 g8 g9 g10 g11 g12 hm
    have b_2 := g_b hG (a := 77) (i := 10) (lo := 0) (hi := 500) rfl rfl
    have b_3 := g_b hG (a := 77) (i := 8) (lo := 0) (hi := 5) rfl rfl
    have z_4 := RS_k g1 (a := (N.2.1 77 10).toInt) (by omega)
    have b_5 := g_b hG (a := 77) (i := 6) (lo := 0) (hi := 500) rfl rfl
    have b_6 := g_b hG (a := 77) (i := 7) (lo := 0) (hi := 500) rfl rfl
    have z_7 := RS_b g1 (a := (N.2.1 77 10).toInt) (by omega)
    refine to_an (pc := 133) rw_213_133 rfl ?_
    refine tt_gI (pc := 134) rw_213_134 (g_o hG rfl) (v := (N.2.1 77 8)) rfl ?_
    refine to_c (pc := 137) rw_213_137 (x := (3 : Int32)) rfl rfl ?_
    refine b_ceq (pc := 138) rw_213_138 (A := (N.2.1 77 8).toInt) (B := 3) rfl rfl (fun h8 => ?_) (fun h8 => ?_)
    · refine to_an (pc := 149) rw_213_149 rfl ?_
      refine to_in (pc := 150) rw_213_150 rfl ?_
      refine s_v (pc := 151) rw_213_151 (dp0 hd (by decide)) (ls0 := [.ref 77, .int e, .null, .null]) rfl (Nat.le_of_ble_eq_true rfl) (Nat.le_of_ble_eq_true rfl) rfl (to_rc rfl rfl rfl (g_o hG rfl)) rfl ?_
      refine E_212 hX (dp1 hd (by decide)) hG (by omega) (by omega) g1 (by omega) (by omega) (by omega) g4 g5 g6 (by omega) (e := e) (t := t) (nn := nn) (a := (N.2.1 77 10).toInt) (sg := sg) (C9 := C9) (fun r9 M21 hG11 F10 p_12 p_13 p_14 p_15 p_16 p_17 p_18 p_19 p_20 => ?_)
      have F22 := FR.c F0 F10 tg_185
      have b_23 := g_b hG11 (a := 77) (i := 10) (lo := 0) (hi := 500) rfl rfl
      rcases (show r9.toInt = 0 ∨ r9.toInt = 1 by omega) with h24 | h24
      · skip
        have p_25 := p_20 (by omega)
        clear p_14 p_15 p_16 p_19 p_20
        have z_26 := g12.trans (w1_nx (by omega) (by omega) (by omega) p_25)
        refine b_ine_f (pc := 154) rw_213_154 (A := r9.toInt) rfl (by omega) ?_
        refine to_c (pc := 157) rw_213_157 (x := (0 : Int32)) rfl rfl ?_
        refine s_r1 (pc := 158) rw_213_158 (A := 0) rfl (by decide) ?_
        have k_27 : (0 : Int32).toInt = 0 := rfl
        have t_28 : (M21.2.1 102 (e.toInt).toNat).toInt = (N.2.1 102 (e.toInt).toNat).toInt := congrArg Int32.toInt (F_n F10 (show ¬ (102 = 77 ∧ (((e.toInt).toNat) = 4 ∨ ((e.toInt).toNat) = 5 ∨ 7 ≤ ((e.toInt).toNat) ∧ ((e.toInt).toNat) ≤ 10) ∨ 102 = 106 ∨ 102 = 107) by omega) rfl)
        have t_29 : (M21.2.1 103 (e.toInt).toNat).toInt = (N.2.1 103 (e.toInt).toNat).toInt := congrArg Int32.toInt (F_n F10 (show ¬ (103 = 77 ∧ (((e.toInt).toNat) = 4 ∨ ((e.toInt).toNat) = 5 ∨ 7 ≤ ((e.toInt).toNat) ∧ ((e.toInt).toNat) ≤ 10) ∨ 103 = 106 ∨ 103 = 107) by omega) rfl)
        have t_30 : (M21.2.1 104 (e.toInt).toNat).toInt = (N.2.1 104 (e.toInt).toNat).toInt := congrArg Int32.toInt (F_n F10 (show ¬ (104 = 77 ∧ (((e.toInt).toNat) = 4 ∨ ((e.toInt).toNat) = 5 ∨ 7 ≤ ((e.toInt).toNat) ∧ ((e.toInt).toNat) ≤ 10) ∨ 104 = 106 ∨ 104 = 107) by omega) rfl)
        exact h (0 : Int32) M21 hG11 F22 (by decide) (by decide) (fun z => by exfalso; omega) (fun r i z z2 => (F_n F10 (show ¬ (r = 77 ∧ (i = 4 ∨ i = 5 ∨ 7 ≤ i ∧ i ≤ 10) ∨ r = 106 ∨ r = 107) by omega) (g7 r i z z2))) (fun i hi => (((rfl).trans ((p_17 i hi).trans (rfl)))).trans (g8 i hi)) (fun i hi => (((rfl).trans ((p_18 i hi).trans (rfl)))).trans (g9 i hi)) (fun z => by exfalso; omega) (fun z => by exfalso; omega) (fun _ => winl (by omega) (by omega) z_26)
      · skip
        have p_31 := p_14 (by omega)
        have p_32 := p_15 (by omega)
        have p_33 := p_16 (by omega)
        have p_34 := p_19 (by omega)
        clear p_14 p_15 p_16 p_19 p_20
        have z_35 := nd_s g11 (by omega) (by omega) (by omega) p_33
        have z_36 := g12.trans (w1_ny (by omega) (by omega) p_34)
        refine b_ine_t (pc := 154) rw_213_154 (A := r9.toInt) rfl (by omega) ?_
        have j_37 := (TR_f (tg_178 F10) g4)
        have j_38 := (W9_f (tg_179 F10) g5)
        have j_39 := (PLk_f (tg_180 F10) g6)
        exact ih M21  hG11 F22 p_32 (by omega) (by omega) j_37 j_38 j_39 (fun r i z z2 => (F_n F10 (show ¬ (r = 77 ∧ (i = 4 ∨ i = 5 ∨ 7 ≤ i ∧ i ≤ 10) ∨ r = 106 ∨ r = 107) by omega) (g7 r i z z2))) (fun i hi => (((rfl).trans ((p_17 i hi).trans (rfl)))).trans (g8 i hi)) (fun i hi => (((rfl).trans ((p_18 i hi).trans (rfl)))).trans (g9 i hi)) ⟨(congrArg Int32.toInt ((F_n F10 (show ¬ (102 = 77 ∧ ((e.toInt).toNat = 4 ∨ (e.toInt).toNat = 5 ∨ 7 ≤ (e.toInt).toNat ∧ (e.toInt).toNat ≤ 10) ∨ 102 = 106 ∨ 102 = 107) by omega) rfl))).trans g10.1, (congrArg Int32.toInt ((F_n F10 (show ¬ (103 = 77 ∧ ((e.toInt).toNat = 4 ∨ (e.toInt).toNat = 5 ∨ 7 ≤ (e.toInt).toNat ∧ (e.toInt).toNat ≤ 10) ∨ 103 = 106 ∨ 103 = 107) by omega) rfl))).trans g10.2.1, (congrArg Int32.toInt ((F_n F10 (show ¬ (104 = 77 ∧ ((e.toInt).toNat = 4 ∨ (e.toInt).toNat = 5 ∨ 7 ≤ (e.toInt).toNat ∧ (e.toInt).toNat ≤ 10) ∨ 104 = 106 ∨ 104 = 107) by omega) rfl))).trans g10.2.2⟩ z_35 z_36 (by omega)
    · refine to_an (pc := 141) rw_213_141 rfl ?_
      refine tt_gI (pc := 142) rw_213_142 (g_o hG rfl) (v := (N.2.1 77 8)) rfl ?_
      refine to_c (pc := 145) rw_213_145 (x := (2 : Int32)) rfl rfl ?_
      refine b_cne (pc := 146) rw_213_146 (A := (N.2.1 77 8).toInt) (B := 2) rfl rfl (fun h40 => ?_) (fun h40 => ?_)
      · refine to_an (pc := 159) rw_213_159 rfl ?_
        refine to_c (pc := 160) rw_213_160 (x := (59 : Int32)) rfl rfl ?_
        refine s_v (pc := 162) rw_213_162 (dp0 hd (by decide)) (ls0 := [.ref 77, .int (59 : Int32)]) rfl (Nat.le_of_ble_eq_true rfl) (Nat.le_of_ble_eq_true rfl) rfl (to_rc rfl rfl rfl (g_o hG rfl)) rfl ?_
        have k_41 : (59 : Int32).toInt = 59 := rfl
        refine E_160w hX (dp1 hd (by decide)) hG g1 (by omega) (by omega) (by omega) g4 g5 (by omega) (c := (59 : Int32)) (t := t) (nn := nn) (a := (N.2.1 77 10).toInt) (fun r42 M51 hG44 F43 p_45 p_46 p_47 p_48 p_49 p_50 => ?_)
        have F52 := FR.c F0 F43 tg_186
        have b_53 := g_b hG44 (a := 77) (i := 10) (lo := 0) (hi := 500) rfl rfl
        rcases (show r42.toInt = 0 ∨ r42.toInt = 1 by omega) with h54 | h54
        · skip
          have p_55 := p_49 (by omega)
          have p_56 := p_50 (by omega)
          clear p_48 p_49 p_50
          have z_57 := g12.trans (w1_x (by omega) (by omega) (by omega) (by omega))
          refine s_r1 (pc := 165) rw_213_165 (A := r42.toInt) rfl (by omega) ?_
          have t_58 : (M51.2.1 102 (e.toInt).toNat).toInt = (N.2.1 102 (e.toInt).toNat).toInt := congrArg Int32.toInt (F_n F43 (show ¬ (102 = 77 ∧ (((e.toInt).toNat) = 4 ∨ ((e.toInt).toNat) = 5 ∨ 7 ≤ ((e.toInt).toNat) ∧ ((e.toInt).toNat) ≤ 10)) by omega) rfl)
          have t_59 : (M51.2.1 103 (e.toInt).toNat).toInt = (N.2.1 103 (e.toInt).toNat).toInt := congrArg Int32.toInt (F_n F43 (show ¬ (103 = 77 ∧ (((e.toInt).toNat) = 4 ∨ ((e.toInt).toNat) = 5 ∨ 7 ≤ ((e.toInt).toNat) ∧ ((e.toInt).toNat) ≤ 10)) by omega) rfl)
          have t_60 : (M51.2.1 104 (e.toInt).toNat).toInt = (N.2.1 104 (e.toInt).toNat).toInt := congrArg Int32.toInt (F_n F43 (show ¬ (104 = 77 ∧ (((e.toInt).toNat) = 4 ∨ ((e.toInt).toNat) = 5 ∨ 7 ≤ ((e.toInt).toNat) ∧ ((e.toInt).toNat) ≤ 10)) by omega) rfl)
          exact h r42 M51 hG44 F52 (by omega) (by omega) (fun z => by exfalso; omega) (fun r i z z2 => (F_n F43 (show ¬ (r = 77 ∧ (i = 4 ∨ i = 5 ∨ 7 ≤ i ∧ i ≤ 10)) by omega) (g7 r i z z2))) (fun i hi => ((F_n F43 (show ¬ (107 = 77 ∧ (i = 4 ∨ i = 5 ∨ 7 ≤ i ∧ i ≤ 10)) by omega) rfl)).trans (g8 i hi)) (fun i hi => ((F_nl F43 (show ¬ (106 = 77 ∧ (i = 4 ∨ i = 5 ∨ 7 ≤ i ∧ i ≤ 10)) by omega) rfl)).trans (g9 i hi)) (fun z => by exfalso; omega) (fun z => by exfalso; omega) (fun _ => winl (by omega) (by omega) z_57)
        · skip
          have p_61 := p_48 (by omega)
          clear p_48 p_49 p_50
          have z_62 := g12.trans (w1_s (by omega) (by omega) (by omega))
          refine s_r1 (pc := 165) rw_213_165 (A := r42.toInt) rfl (by omega) ?_
          have t_63 : (M51.2.1 102 (e.toInt).toNat).toInt = (N.2.1 102 (e.toInt).toNat).toInt := congrArg Int32.toInt (F_n F43 (show ¬ (102 = 77 ∧ (((e.toInt).toNat) = 4 ∨ ((e.toInt).toNat) = 5 ∨ 7 ≤ ((e.toInt).toNat) ∧ ((e.toInt).toNat) ≤ 10)) by omega) rfl)
          have t_64 : (M51.2.1 103 (e.toInt).toNat).toInt = (N.2.1 103 (e.toInt).toNat).toInt := congrArg Int32.toInt (F_n F43 (show ¬ (103 = 77 ∧ (((e.toInt).toNat) = 4 ∨ ((e.toInt).toNat) = 5 ∨ 7 ≤ ((e.toInt).toNat) ∧ ((e.toInt).toNat) ≤ 10)) by omega) rfl)
          have t_65 : (M51.2.1 104 (e.toInt).toNat).toInt = (N.2.1 104 (e.toInt).toNat).toInt := congrArg Int32.toInt (F_n F43 (show ¬ (104 = 77 ∧ (((e.toInt).toNat) = 4 ∨ ((e.toInt).toNat) = 5 ∨ 7 ≤ ((e.toInt).toNat) ∧ ((e.toInt).toNat) ≤ 10)) by omega) rfl)
          exact h r42 M51 hG44 F52 (by omega) (by omega) (fun _ => p_47) (fun r i z z2 => (F_n F43 (show ¬ (r = 77 ∧ (i = 4 ∨ i = 5 ∨ 7 ≤ i ∧ i ≤ 10)) by omega) (g7 r i z z2))) (fun i hi => ((F_n F43 (show ¬ (107 = 77 ∧ (i = 4 ∨ i = 5 ∨ 7 ≤ i ∧ i ≤ 10)) by omega) rfl)).trans (g8 i hi)) (fun i hi => ((F_nl F43 (show ¬ (106 = 77 ∧ (i = 4 ∨ i = 5 ∨ 7 ≤ i ∧ i ≤ 10)) by omega) rfl)).trans (g9 i hi)) (fun _ => ⟨(congrArg Int32.toInt ((F_n F43 (show ¬ (102 = 77 ∧ ((e.toInt).toNat = 4 ∨ (e.toInt).toNat = 5 ∨ 7 ≤ (e.toInt).toNat ∧ (e.toInt).toNat ≤ 10)) by omega) rfl))).trans g10.1, (congrArg Int32.toInt ((F_n F43 (show ¬ (103 = 77 ∧ ((e.toInt).toNat = 4 ∨ (e.toInt).toNat = 5 ∨ 7 ≤ (e.toInt).toNat ∧ (e.toInt).toNat ≤ 10)) by omega) rfl))).trans g10.2.1, (congrArg Int32.toInt ((F_n F43 (show ¬ (104 = 77 ∧ ((e.toInt).toNat = 4 ∨ (e.toInt).toNat = 5 ∨ 7 ≤ (e.toInt).toNat ∧ (e.toInt).toNat ≤ 10)) by omega) rfl))).trans g10.2.2, (by rw [show M51.2.1 107 (e.toInt).toNat = N.2.1 107 (e.toInt).toNat from (F_n F43 (show ¬ (107 = 77 ∧ ((e.toInt).toNat = 4 ∨ (e.toInt).toNat = 5 ∨ 7 ≤ (e.toInt).toNat ∧ (e.toInt).toNat ≤ 10)) by omega) rfl), show M51.2.2.1 106 (e.toInt).toNat = N.2.2.1 106 (e.toInt).toNat from (F_nl F43 (show ¬ (106 = 77 ∧ ((e.toInt).toNat = 4 ∨ (e.toInt).toNat = 5 ∨ 7 ≤ (e.toInt).toNat ∧ (e.toInt).toNat ≤ 10)) by omega) rfl)]; exact nd_x g11 (by omega) (by omega))⟩) (fun _ => z_62.trans (w_v rfl (by omega))) (fun z => by exfalso; omega)
      · refine to_an (pc := 149) rw_213_149 rfl ?_
        refine to_in (pc := 150) rw_213_150 rfl ?_
        refine s_v (pc := 151) rw_213_151 (dp0 hd (by decide)) (ls0 := [.ref 77, .int e, .null, .null]) rfl (Nat.le_of_ble_eq_true rfl) (Nat.le_of_ble_eq_true rfl) rfl (to_rc rfl rfl rfl (g_o hG rfl)) rfl ?_
        refine E_212 hX (dp1 hd (by decide)) hG (by omega) (by omega) g1 (by omega) (by omega) (by omega) g4 g5 g6 (by omega) (e := e) (t := t) (nn := nn) (a := (N.2.1 77 10).toInt) (sg := sg) (C9 := C9) (fun r66 M78 hG68 F67 p_69 p_70 p_71 p_72 p_73 p_74 p_75 p_76 p_77 => ?_)
        have F79 := FR.c F0 F67 tg_185
        have b_80 := g_b hG68 (a := 77) (i := 10) (lo := 0) (hi := 500) rfl rfl
        rcases (show r66.toInt = 0 ∨ r66.toInt = 1 by omega) with h81 | h81
        · skip
          have p_82 := p_77 (by omega)
          clear p_71 p_72 p_73 p_76 p_77
          have z_83 := g12.trans (w1_nx (by omega) (by omega) (by omega) p_82)
          refine b_ine_f (pc := 154) rw_213_154 (A := r66.toInt) rfl (by omega) ?_
          refine to_c (pc := 157) rw_213_157 (x := (0 : Int32)) rfl rfl ?_
          refine s_r1 (pc := 158) rw_213_158 (A := 0) rfl (by decide) ?_
          have k_84 : (0 : Int32).toInt = 0 := rfl
          have t_85 : (M78.2.1 102 (e.toInt).toNat).toInt = (N.2.1 102 (e.toInt).toNat).toInt := congrArg Int32.toInt (F_n F67 (show ¬ (102 = 77 ∧ (((e.toInt).toNat) = 4 ∨ ((e.toInt).toNat) = 5 ∨ 7 ≤ ((e.toInt).toNat) ∧ ((e.toInt).toNat) ≤ 10) ∨ 102 = 106 ∨ 102 = 107) by omega) rfl)
          have t_86 : (M78.2.1 103 (e.toInt).toNat).toInt = (N.2.1 103 (e.toInt).toNat).toInt := congrArg Int32.toInt (F_n F67 (show ¬ (103 = 77 ∧ (((e.toInt).toNat) = 4 ∨ ((e.toInt).toNat) = 5 ∨ 7 ≤ ((e.toInt).toNat) ∧ ((e.toInt).toNat) ≤ 10) ∨ 103 = 106 ∨ 103 = 107) by omega) rfl)
          have t_87 : (M78.2.1 104 (e.toInt).toNat).toInt = (N.2.1 104 (e.toInt).toNat).toInt := congrArg Int32.toInt (F_n F67 (show ¬ (104 = 77 ∧ (((e.toInt).toNat) = 4 ∨ ((e.toInt).toNat) = 5 ∨ 7 ≤ ((e.toInt).toNat) ∧ ((e.toInt).toNat) ≤ 10) ∨ 104 = 106 ∨ 104 = 107) by omega) rfl)
          exact h (0 : Int32) M78 hG68 F79 (by decide) (by decide) (fun z => by exfalso; omega) (fun r i z z2 => (F_n F67 (show ¬ (r = 77 ∧ (i = 4 ∨ i = 5 ∨ 7 ≤ i ∧ i ≤ 10) ∨ r = 106 ∨ r = 107) by omega) (g7 r i z z2))) (fun i hi => (((rfl).trans ((p_74 i hi).trans (rfl)))).trans (g8 i hi)) (fun i hi => (((rfl).trans ((p_75 i hi).trans (rfl)))).trans (g9 i hi)) (fun z => by exfalso; omega) (fun z => by exfalso; omega) (fun _ => winl (by omega) (by omega) z_83)
        · skip
          have p_88 := p_71 (by omega)
          have p_89 := p_72 (by omega)
          have p_90 := p_73 (by omega)
          have p_91 := p_76 (by omega)
          clear p_71 p_72 p_73 p_76 p_77
          have z_92 := nd_s g11 (by omega) (by omega) (by omega) p_90
          have z_93 := g12.trans (w1_ny (by omega) (by omega) p_91)
          refine b_ine_t (pc := 154) rw_213_154 (A := r66.toInt) rfl (by omega) ?_
          have j_94 := (TR_f (tg_178 F67) g4)
          have j_95 := (W9_f (tg_179 F67) g5)
          have j_96 := (PLk_f (tg_180 F67) g6)
          exact ih M78  hG68 F79 p_89 (by omega) (by omega) j_94 j_95 j_96 (fun r i z z2 => (F_n F67 (show ¬ (r = 77 ∧ (i = 4 ∨ i = 5 ∨ 7 ≤ i ∧ i ≤ 10) ∨ r = 106 ∨ r = 107) by omega) (g7 r i z z2))) (fun i hi => (((rfl).trans ((p_74 i hi).trans (rfl)))).trans (g8 i hi)) (fun i hi => (((rfl).trans ((p_75 i hi).trans (rfl)))).trans (g9 i hi)) ⟨(congrArg Int32.toInt ((F_n F67 (show ¬ (102 = 77 ∧ ((e.toInt).toNat = 4 ∨ (e.toInt).toNat = 5 ∨ 7 ≤ (e.toInt).toNat ∧ (e.toInt).toNat ≤ 10) ∨ 102 = 106 ∨ 102 = 107) by omega) rfl))).trans g10.1, (congrArg Int32.toInt ((F_n F67 (show ¬ (103 = 77 ∧ ((e.toInt).toNat = 4 ∨ (e.toInt).toNat = 5 ∨ 7 ≤ (e.toInt).toNat ∧ (e.toInt).toNat ≤ 10) ∨ 103 = 106 ∨ 103 = 107) by omega) rfl))).trans g10.2.1, (congrArg Int32.toInt ((F_n F67 (show ¬ (104 = 77 ∧ ((e.toInt).toNat = 4 ∨ (e.toInt).toNat = 5 ∨ 7 ≤ (e.toInt).toNat ∧ (e.toInt).toNat ≤ 10) ∨ 104 = 106 ∨ 104 = 107) by omega) rfl))).trans g10.2.2⟩ z_92 z_93 (by omega)
set_option maxRecDepth 4000 in
set_option maxHeartbeats 0 in
theorem E_213 {X : mm_X} {d : Nat} {M : mm_M} {Q : Option Value → mm_M → Prop} {e : Int32} {t : Nat → Int} {nn : Int} {a : Int} {sg : x_S} {C9 : Nat → Int64} {n9 : Int} {op : List Int} {A9 : x_A} (hX : g_X X) (hd : 3 ≤ d) (hG : g_G M) (q1 : 0 ≤ e.toInt) (q2 : e.toInt ≤ 39) (q3 : RS M t nn) (q4 : (M.2.1 77 10).toInt = a) (q5 : 0 ≤ nn) (q6 : nn ≤ 500) (q7 : TR M t nn) (q8 : W9 M) (q9 : PLk M sg) (h : ∀ (r : Int32) (M1 : mm_M), g_G M1 → FR md_ps M M1 → (0 ≤ r.toInt) → (r.toInt ≤ 1) → ((r.toInt = 1 → RS M1 t nn)) → (∀ r i : Nat, (102 ≤ r ∧ r ≤ 104) → ¬ i = (e.toInt).toNat → M1.2.1 r i = M.2.1 r i) → (∀ i : Nat, ¬ i = (e.toInt).toNat → M1.2.1 107 i = M.2.1 107 i) → (∀ i : Nat, ¬ i = (e.toInt).toNat → M1.2.2.1 106 i = M.2.2.1 106 i) → ((r.toInt = 1 → (M1.2.1 102 (e.toInt).toNat).toInt = x_kp t nn a ∧ (M1.2.1 103 (e.toInt).toNat).toInt = x_kp t nn (x_ns t nn (x_ns t nn a)) ∧ (M1.2.1 104 (e.toInt).toNat).toInt = x_kp t nn (x_ns t nn (x_ns t nn (x_ns t nn a))) ∧ x_nwl C9 (M1.2.1 107 (e.toInt).toNat) sg.2.2.1.toNat 0 (M1.2.2.1 106 (e.toInt).toNat) = x_ndv t nn sg C9 (x_ns t nn (x_ns t nn (x_ns t nn (x_ns t nn (x_ns t nn a))))) 0)) → ((r.toInt = 1 → x_wps t nn sg a (x_ww t nn sg 1 n9 op A9) = x_ww t nn sg 0 n9 op A9 (M1.2.1 77 10).toInt)) → ((r.toInt = 0 → x_wps t nn sg a (x_ww t nn sg 1 n9 op A9) = Sum.inl ((M1.2.1 77 4).toInt, (M1.2.1 77 5).toInt))) → Q (some (.int r)) M1) : mm_T X d 212 0 [.ref 77, .int e] [] M Q := by
  have F0 : FR md_ps M M := FR.rf
  have b_97 := g_b hG (a := 77) (i := 10) (lo := 0) (hi := 500) rfl rfl
  have b_98 := g_b hG (a := 77) (i := 8) (lo := 0) (hi := 5) rfl rfl
  have z_99 := RS_k q3 (a := a) (by omega)
  have b_100 := g_b hG (a := 77) (i := 6) (lo := 0) (hi := 500) rfl rfl
  have b_101 := g_b hG (a := 77) (i := 7) (lo := 0) (hi := 500) rfl rfl
  have z_102 := RS_b q3 (a := a) (by omega)
  refine to_an (pc := 0) rw_213_0 rfl ?_
  refine s_gR (pc := 1) rw_213_1 hG rfl (v := 102) rfl ?_
  refine to_in (pc := 4) rw_213_4 rfl ?_
  refine to_an (pc := 5) rw_213_5 rfl ?_
  refine s_v (pc := 6) rw_213_6 (dp0 hd (by decide)) (ls0 := [.ref 77, .null, .null]) rfl (Nat.le_of_ble_eq_true rfl) (Nat.le_of_ble_eq_true rfl) rfl (to_rc rfl rfl rfl (g_o hG rfl)) rfl ?_
  refine E_211 hX (dp1 hd (by decide)) hG q3 (by omega) (t := t) (nn := nn) (a := a) (fun r103 M110 hG105 F104 p_106 p_107 p_108 p_109 => ?_)
  have F111 := FR.c F0 F104 tg_187
  refine s_ias (pc := 9) rw_213_9 hG105 rfl (n := 40) rfl (A := e.toInt) rfl (by omega) (by omega) (fun M113 W112 => ?_)
  have hG114 := g_w hG105 W112 (A := r103.toInt) rfl (lo := -1) (hi := 99) rfl rfl (by omega) (by decide)
  have F115 := FR.w F111 W112 (show 102 = 77 ∧ ((e.toInt).toNat = 4 ∨ (e.toInt).toNat = 5 ∨ 7 ≤ (e.toInt).toNat ∧ (e.toInt).toNat ≤ 10) ∨ 102 ≤ 102 ∧ 102 ≤ 104 ∨ 102 = 106 ∨ 102 = 107 by omega)
  refine to_an (pc := 10) rw_213_10 rfl ?_
  refine s_gR (pc := 11) rw_213_11 hG114 rfl (v := 102) rfl ?_
  refine to_in (pc := 14) rw_213_14 rfl ?_
  refine s_ialk (pc := 15) rw_213_15 hG114 rfl (n := 40) rfl rfl (A := e.toInt) rfl (by omega) (by omega) (v := r103) (W_e W112) ?_
  refine b_ige (pc := 16) rw_213_16 (A := r103.toInt) rfl (fun h118 => ?_) (fun h118 => ?_)
  · refine to_an (pc := 21) rw_213_21 rfl ?_
    refine s_v (pc := 22) rw_213_22 (dp0 hd (by decide)) (ls0 := [.ref 77]) rfl (Nat.le_of_ble_eq_true rfl) (Nat.le_of_ble_eq_true rfl) rfl (to_rc rfl rfl rfl (g_o hG114 rfl)) rfl ?_
    have c_119 : M113.2.1 77 7 = (M.2.1 77 7) := (W_n W112 (fun z => absurd z.1 (by decide)) (F_n F104 (show ¬ (77 = 77 ∧ (7 = 4 ∨ 7 = 5)) by decide) rfl))
    have t_120 : (M113.2.1 77 7).toInt = (M.2.1 77 7).toInt := congrArg Int32.toInt c_119
    have c_121 : M113.2.1 77 6 = (M.2.1 77 6) := (W_n W112 (fun z => absurd z.1 (by decide)) (F_n F104 (show ¬ (77 = 77 ∧ (6 = 4 ∨ 6 = 5)) by decide) rfl))
    have t_122 : (M113.2.1 77 6).toInt = (M.2.1 77 6).toInt := congrArg Int32.toInt c_121
    have c_123 : M113.2.1 77 10 = (M.2.1 77 10) := (W_n W112 (fun z => absurd z.1 (by decide)) (F_n F104 (show ¬ (77 = 77 ∧ (10 = 4 ∨ 10 = 5)) by decide) rfl))
    have t_124 : (M113.2.1 77 10).toInt = (M.2.1 77 10).toInt := congrArg Int32.toInt c_123
    have j_125 := (RS_f (fun a i z => W_n W112 (tg_189 a i _ z) rfl) (RS_f (tg_40 F104) q3))
    have z_126 := RS_b j_125 (a := a) (by omega)
    have j_127 := (TR_f (fun a i z => W_n W112 (tg_190 a i _ z) rfl) (TR_f (tg_41 F104) q7))
    have j_128 := (W9_f (fun a i z => W_n W112 (tg_191 a i _ z) rfl) (W9_f (tg_43 F104) q8))
    refine E_156 hX (dp1 hd (by decide)) hG114 (by omega) (by omega) (by omega) (by omega) j_127 j_128  (fun M135 hG130 F129 p_131 p_132 p_133 p_134 => ?_)
    have F136 := FR.c F115 F129 tg_188
    have b_137 := g_b hG130 (a := 77) (i := 7) (lo := 0) (hi := 500) rfl rfl
    have c_138 : M135.2.1 77 6 = (M.2.1 77 6) := (F_n F129 (show ¬ (77 = 77 ∧ 7 ≤ 6 ∧ 6 ≤ 10) by decide) c_121)
    have t_139 : (M135.2.1 77 6).toInt = (M.2.1 77 6).toInt := congrArg Int32.toInt c_138
    have b_140 := g_b hG130 (a := 77) (i := 8) (lo := 0) (hi := 5) rfl rfl
    have z_141 : x_wps t nn sg a (x_ww t nn sg 1 n9 op A9) = x_wy2 t nn 8 (x_ns t nn a) (fun c => x_wp t nn c (fun d => x_wp t nn d (fun e => x_wy2 t nn 9 e (fun g => x_wnd t nn sg g (x_ww t nn sg 1 n9 op A9))))) := p_wp (by omega)
    have b_142 := g_b hG130 (a := 77) (i := 10) (lo := 0) (hi := 500) rfl rfl
    have z_143 := RS_s p_134.2 (a := a) (by omega)
    have z_144 := x_ns_b (t := t) (n := nn) (a := a) (by omega) (by omega)
    refine to_an (pc := 25) rw_213_25 rfl ?_
    refine to_c (pc := 26) rw_213_26 (x := (8 : Int32)) rfl rfl ?_
    refine s_v (pc := 28) rw_213_28 (dp0 hd (by decide)) (ls0 := [.ref 77, .int (8 : Int32)]) rfl (Nat.le_of_ble_eq_true rfl) (Nat.le_of_ble_eq_true rfl) rfl (to_rc rfl rfl rfl (g_o hG130 rfl)) rfl ?_
    have k_145 : (8 : Int32).toInt = 8 := rfl
    have j_146 := (TR_f (tg_42 F129) j_127)
    have j_147 := (W9_f (tg_44 F129) j_128)
    refine E_161 hX (dp1 hd (by decide)) hG130 p_134.1 (by omega) (by omega) (by omega) j_146 j_147 (by omega) (by omega) (c := (8 : Int32)) (t := t) (nn := nn) (a := (x_ns t nn a)) (fun r148 M157 hG150 F149 p_151 p_152 p_153 p_154 p_155 p_156 => ?_)
    have F158 := FR.c F136 F149 tg_186
    have b_159 := g_b hG150 (a := 77) (i := 10) (lo := 0) (hi := 500) rfl rfl
    rcases (show r148.toInt = 0 ∨ r148.toInt = 1 by omega) with h160 | h160
    · skip
      have p_161 := p_155 (by omega)
      have p_162 := p_156 (by omega)
      clear p_154 p_155 p_156
      have z_163 : x_wps t nn sg a (x_ww t nn sg 1 n9 op A9) = Sum.inl (1, (x_ns t nn a)) := z_141.trans (p_wyx (by omega))
      refine b_ine_f (pc := 31) rw_213_31 (A := r148.toInt) rfl (by omega) ?_
      refine to_c (pc := 34) rw_213_34 (x := (0 : Int32)) rfl rfl ?_
      refine s_r1 (pc := 35) rw_213_35 (A := 0) rfl (by decide) ?_
      have k_164 : (0 : Int32).toInt = 0 := rfl
      have t_165 : (M113.2.1 102 (e.toInt).toNat).toInt = r103.toInt := congrArg Int32.toInt (W_e W112)
      have t_166 : (M157.2.1 102 (e.toInt).toNat).toInt = (M113.2.1 102 (e.toInt).toNat).toInt := congrArg Int32.toInt (F_n F149 (show ¬ (102 = 77 ∧ (((e.toInt).toNat) = 4 ∨ ((e.toInt).toNat) = 5 ∨ 7 ≤ ((e.toInt).toNat) ∧ ((e.toInt).toNat) ≤ 10)) by omega) (F_n F129 (show ¬ (102 = 77 ∧ 7 ≤ ((e.toInt).toNat) ∧ ((e.toInt).toNat) ≤ 10) by omega) rfl))
      have t_167 : (M157.2.1 103 (e.toInt).toNat).toInt = (M.2.1 103 (e.toInt).toNat).toInt := congrArg Int32.toInt (F_n F149 (show ¬ (103 = 77 ∧ (((e.toInt).toNat) = 4 ∨ ((e.toInt).toNat) = 5 ∨ 7 ≤ ((e.toInt).toNat) ∧ ((e.toInt).toNat) ≤ 10)) by omega) (F_n F129 (show ¬ (103 = 77 ∧ 7 ≤ ((e.toInt).toNat) ∧ ((e.toInt).toNat) ≤ 10) by omega) (W_n W112 (by omega) (F_n F104 (show ¬ (103 = 77 ∧ (((e.toInt).toNat) = 4 ∨ ((e.toInt).toNat) = 5)) by omega) rfl))))
      have t_168 : (M157.2.1 104 (e.toInt).toNat).toInt = (M.2.1 104 (e.toInt).toNat).toInt := congrArg Int32.toInt (F_n F149 (show ¬ (104 = 77 ∧ (((e.toInt).toNat) = 4 ∨ ((e.toInt).toNat) = 5 ∨ 7 ≤ ((e.toInt).toNat) ∧ ((e.toInt).toNat) ≤ 10)) by omega) (F_n F129 (show ¬ (104 = 77 ∧ 7 ≤ ((e.toInt).toNat) ∧ ((e.toInt).toNat) ≤ 10) by omega) (W_n W112 (by omega) (F_n F104 (show ¬ (104 = 77 ∧ (((e.toInt).toNat) = 4 ∨ ((e.toInt).toNat) = 5)) by omega) rfl))))
      exact h (0 : Int32) M157 hG150 F158 (by decide) (by decide) (fun z => by exfalso; omega) (fun r i z z2 => (F_n F149 (show ¬ (r = 77 ∧ (i = 4 ∨ i = 5 ∨ 7 ≤ i ∧ i ≤ 10)) by omega) (F_n F129 (show ¬ (r = 77 ∧ 7 ≤ i ∧ i ≤ 10) by omega) (W_n W112 (by omega) (F_n F104 (show ¬ (r = 77 ∧ (i = 4 ∨ i = 5)) by omega) rfl))))) (fun i hi => (F_n F149 (show ¬ (107 = 77 ∧ (i = 4 ∨ i = 5 ∨ 7 ≤ i ∧ i ≤ 10)) by omega) (F_n F129 (show ¬ (107 = 77 ∧ 7 ≤ i ∧ i ≤ 10) by omega) (W_n W112 (by omega) (F_n F104 (show ¬ (107 = 77 ∧ (i = 4 ∨ i = 5)) by omega) rfl))))) (fun i hi => (F_nl F149 (show ¬ (106 = 77 ∧ (i = 4 ∨ i = 5 ∨ 7 ≤ i ∧ i ≤ 10)) by omega) (F_nl F129 (show ¬ (106 = 77 ∧ 7 ≤ i ∧ i ≤ 10) by omega) (W_j W112 (F_nl F104 (show ¬ (106 = 77 ∧ (i = 4 ∨ i = 5)) by omega) rfl))))) (fun z => by exfalso; omega) (fun z => by exfalso; omega) (fun _ => winl (by omega) (by omega) z_163)
    · skip
      have p_169 := p_154 (by omega)
      clear p_154 p_155 p_156
      have z_170 : x_wps t nn sg a (x_ww t nn sg 1 n9 op A9) = x_wp t nn (x_ns t nn (x_ns t nn a)) (fun d => x_wp t nn d (fun e => x_wy2 t nn 9 e (fun g => x_wnd t nn sg g (x_ww t nn sg 1 n9 op A9)))) := z_141.trans (p_wy (by omega))
      have z_171 := x_ns_b (t := t) (n := nn) (a := (x_ns t nn a)) (by omega) (by omega)
      refine b_ine_t (pc := 31) rw_213_31 (A := r148.toInt) rfl (by omega) ?_
      refine to_an (pc := 36) rw_213_36 rfl ?_
      refine s_gR (pc := 37) rw_213_37 hG150 rfl (v := 103) rfl ?_
      refine to_in (pc := 40) rw_213_40 rfl ?_
      refine to_an (pc := 41) rw_213_41 rfl ?_
      refine s_v (pc := 42) rw_213_42 (dp0 hd (by decide)) (ls0 := [.ref 77, .null, .null]) rfl (Nat.le_of_ble_eq_true rfl) (Nat.le_of_ble_eq_true rfl) rfl (to_rc rfl rfl rfl (g_o hG150 rfl)) rfl ?_
      refine E_211 hX (dp1 hd (by decide)) hG150 p_153 (by omega) (t := t) (nn := nn) (a := (x_ns t nn (x_ns t nn a))) (fun r172 M179 hG174 F173 p_175 p_176 p_177 p_178 => ?_)
      have F180 := FR.c F158 F173 tg_187
      refine s_ias (pc := 45) rw_213_45 hG174 rfl (n := 40) rfl (A := e.toInt) rfl (by omega) (by omega) (fun M182 W181 => ?_)
      have hG183 := g_w hG174 W181 (A := r172.toInt) rfl (lo := -1) (hi := 5) rfl rfl (by omega) (by decide)
      have F184 := FR.w F180 W181 (show 103 = 77 ∧ ((e.toInt).toNat = 4 ∨ (e.toInt).toNat = 5 ∨ 7 ≤ (e.toInt).toNat ∧ (e.toInt).toNat ≤ 10) ∨ 102 ≤ 103 ∧ 103 ≤ 104 ∨ 103 = 106 ∨ 103 = 107 by omega)
      refine to_an (pc := 46) rw_213_46 rfl ?_
      refine s_gR (pc := 47) rw_213_47 hG183 rfl (v := 103) rfl ?_
      refine to_in (pc := 50) rw_213_50 rfl ?_
      refine s_ialk (pc := 51) rw_213_51 hG183 rfl (n := 40) rfl rfl (A := e.toInt) rfl (by omega) (by omega) (v := r172) (W_e W181) ?_
      refine b_ige (pc := 52) rw_213_52 (A := r172.toInt) rfl (fun h187 => ?_) (fun h187 => ?_)
      · refine to_an (pc := 57) rw_213_57 rfl ?_
        refine s_v (pc := 58) rw_213_58 (dp0 hd (by decide)) (ls0 := [.ref 77]) rfl (Nat.le_of_ble_eq_true rfl) (Nat.le_of_ble_eq_true rfl) rfl (to_rc rfl rfl rfl (g_o hG183 rfl)) rfl ?_
        have c_188 : M182.2.1 77 7 = (M157.2.1 77 7) := (W_n W181 (fun z => absurd z.1 (by decide)) (F_n F173 (show ¬ (77 = 77 ∧ (7 = 4 ∨ 7 = 5)) by decide) rfl))
        have b_189 := g_b hG150 (a := 77) (i := 7) (lo := 0) (hi := 500) rfl rfl
        have t_190 : (M182.2.1 77 7).toInt = (M157.2.1 77 7).toInt := congrArg Int32.toInt c_188
        have c_191 : M182.2.1 77 6 = (M.2.1 77 6) := (W_n W181 (fun z => absurd z.1 (by decide)) (F_n F173 (show ¬ (77 = 77 ∧ (6 = 4 ∨ 6 = 5)) by decide) (F_n F149 (show ¬ (77 = 77 ∧ (6 = 4 ∨ 6 = 5 ∨ 7 ≤ 6 ∧ 6 ≤ 10)) by decide) c_138)))
        have t_192 : (M182.2.1 77 6).toInt = (M.2.1 77 6).toInt := congrArg Int32.toInt c_191
        have c_193 : M182.2.1 77 10 = (M157.2.1 77 10) := (W_n W181 (fun z => absurd z.1 (by decide)) (F_n F173 (show ¬ (77 = 77 ∧ (10 = 4 ∨ 10 = 5)) by decide) rfl))
        have t_194 : (M182.2.1 77 10).toInt = (M157.2.1 77 10).toInt := congrArg Int32.toInt c_193
        have j_195 := (RS_f (fun a i z => W_n W181 (tg_192 a i _ z) rfl) (RS_f (tg_40 F173) p_153))
        have z_196 := RS_b j_195 (a := (x_ns t nn (x_ns t nn a))) (by omega)
        have j_197 := (TR_f (fun a i z => W_n W181 (tg_193 a i _ z) rfl) (TR_f (tg_41 F173) (TR_f (tg_181 F149) j_146)))
        have j_198 := (W9_f (fun a i z => W_n W181 (tg_194 a i _ z) rfl) (W9_f (tg_43 F173) (W9_f (tg_182 F149) j_147)))
        refine E_156 hX (dp1 hd (by decide)) hG183 (by omega) (by omega) (by omega) (by omega) j_197 j_198  (fun M205 hG200 F199 p_201 p_202 p_203 p_204 => ?_)
        have F206 := FR.c F184 F199 tg_188
        have b_207 := g_b hG200 (a := 77) (i := 7) (lo := 0) (hi := 500) rfl rfl
        have c_208 : M205.2.1 77 6 = (M.2.1 77 6) := (F_n F199 (show ¬ (77 = 77 ∧ 7 ≤ 6 ∧ 6 ≤ 10) by decide) c_191)
        have t_209 : (M205.2.1 77 6).toInt = (M.2.1 77 6).toInt := congrArg Int32.toInt c_208
        have b_210 := g_b hG200 (a := 77) (i := 8) (lo := 0) (hi := 5) rfl rfl
        have z_211 : x_wps t nn sg a (x_ww t nn sg 1 n9 op A9) = x_wp t nn (x_ns t nn (x_ns t nn (x_ns t nn a))) (fun e => x_wy2 t nn 9 e (fun g => x_wnd t nn sg g (x_ww t nn sg 1 n9 op A9))) := z_170.trans (p_wp (by omega))
        have b_212 := g_b hG200 (a := 77) (i := 10) (lo := 0) (hi := 500) rfl rfl
        have z_213 := RS_s p_204.2 (a := (x_ns t nn (x_ns t nn a))) (by omega)
        have z_214 := x_ns_b (t := t) (n := nn) (a := (x_ns t nn (x_ns t nn a))) (by omega) (by omega)
        refine to_an (pc := 61) rw_213_61 rfl ?_
        refine s_gR (pc := 62) rw_213_62 hG200 rfl (v := 104) rfl ?_
        refine to_in (pc := 65) rw_213_65 rfl ?_
        refine to_an (pc := 66) rw_213_66 rfl ?_
        refine s_v (pc := 67) rw_213_67 (dp0 hd (by decide)) (ls0 := [.ref 77, .null, .null]) rfl (Nat.le_of_ble_eq_true rfl) (Nat.le_of_ble_eq_true rfl) rfl (to_rc rfl rfl rfl (g_o hG200 rfl)) rfl ?_
        refine E_211 hX (dp1 hd (by decide)) hG200 p_204.1 (by omega) (t := t) (nn := nn) (a := (x_ns t nn (x_ns t nn (x_ns t nn a)))) (fun r215 M222 hG217 F216 p_218 p_219 p_220 p_221 => ?_)
        have F223 := FR.c F206 F216 tg_187
        refine s_ias (pc := 70) rw_213_70 hG217 rfl (n := 40) rfl (A := e.toInt) rfl (by omega) (by omega) (fun M225 W224 => ?_)
        have hG226 := g_w hG217 W224 (A := r215.toInt) rfl (lo := -1) (hi := 5) rfl rfl (by omega) (by decide)
        have F227 := FR.w F223 W224 (show 104 = 77 ∧ ((e.toInt).toNat = 4 ∨ (e.toInt).toNat = 5 ∨ 7 ≤ (e.toInt).toNat ∧ (e.toInt).toNat ≤ 10) ∨ 102 ≤ 104 ∧ 104 ≤ 104 ∨ 104 = 106 ∨ 104 = 107 by omega)
        refine to_an (pc := 71) rw_213_71 rfl ?_
        refine s_gR (pc := 72) rw_213_72 hG226 rfl (v := 104) rfl ?_
        refine to_in (pc := 75) rw_213_75 rfl ?_
        refine s_ialk (pc := 76) rw_213_76 hG226 rfl (n := 40) rfl rfl (A := e.toInt) rfl (by omega) (by omega) (v := r215) (W_e W224) ?_
        refine b_ige (pc := 77) rw_213_77 (A := r215.toInt) rfl (fun h230 => ?_) (fun h230 => ?_)
        · refine to_an (pc := 82) rw_213_82 rfl ?_
          refine s_v (pc := 83) rw_213_83 (dp0 hd (by decide)) (ls0 := [.ref 77]) rfl (Nat.le_of_ble_eq_true rfl) (Nat.le_of_ble_eq_true rfl) rfl (to_rc rfl rfl rfl (g_o hG226 rfl)) rfl ?_
          have c_231 : M225.2.1 77 7 = (M205.2.1 77 7) := (W_n W224 (fun z => absurd z.1 (by decide)) (F_n F216 (show ¬ (77 = 77 ∧ (7 = 4 ∨ 7 = 5)) by decide) rfl))
          have t_232 : (M225.2.1 77 7).toInt = (M205.2.1 77 7).toInt := congrArg Int32.toInt c_231
          have c_233 : M225.2.1 77 6 = (M.2.1 77 6) := (W_n W224 (fun z => absurd z.1 (by decide)) (F_n F216 (show ¬ (77 = 77 ∧ (6 = 4 ∨ 6 = 5)) by decide) c_208))
          have t_234 : (M225.2.1 77 6).toInt = (M.2.1 77 6).toInt := congrArg Int32.toInt c_233
          have c_235 : M225.2.1 77 10 = (M205.2.1 77 10) := (W_n W224 (fun z => absurd z.1 (by decide)) (F_n F216 (show ¬ (77 = 77 ∧ (10 = 4 ∨ 10 = 5)) by decide) rfl))
          have t_236 : (M225.2.1 77 10).toInt = (M205.2.1 77 10).toInt := congrArg Int32.toInt c_235
          have j_237 := (RS_f (fun a i z => W_n W224 (tg_195 a i _ z) rfl) (RS_f (tg_40 F216) p_204.1))
          have z_238 := RS_b j_237 (a := (x_ns t nn (x_ns t nn (x_ns t nn a)))) (by omega)
          have j_239 := (TR_f (fun a i z => W_n W224 (tg_196 a i _ z) rfl) (TR_f (tg_41 F216) (TR_f (tg_42 F199) j_197)))
          have j_240 := (W9_f (fun a i z => W_n W224 (tg_197 a i _ z) rfl) (W9_f (tg_43 F216) (W9_f (tg_44 F199) j_198)))
          refine E_156 hX (dp1 hd (by decide)) hG226 (by omega) (by omega) (by omega) (by omega) j_239 j_240  (fun M247 hG242 F241 p_243 p_244 p_245 p_246 => ?_)
          have F248 := FR.c F227 F241 tg_188
          have b_249 := g_b hG242 (a := 77) (i := 7) (lo := 0) (hi := 500) rfl rfl
          have c_250 : M247.2.1 77 6 = (M.2.1 77 6) := (F_n F241 (show ¬ (77 = 77 ∧ 7 ≤ 6 ∧ 6 ≤ 10) by decide) c_233)
          have t_251 : (M247.2.1 77 6).toInt = (M.2.1 77 6).toInt := congrArg Int32.toInt c_250
          have b_252 := g_b hG242 (a := 77) (i := 8) (lo := 0) (hi := 5) rfl rfl
          have z_253 : x_wps t nn sg a (x_ww t nn sg 1 n9 op A9) = x_wy2 t nn 9 (x_ns t nn (x_ns t nn (x_ns t nn (x_ns t nn a)))) (fun g => x_wnd t nn sg g (x_ww t nn sg 1 n9 op A9)) := z_211.trans (p_wp (by omega))
          have b_254 := g_b hG242 (a := 77) (i := 10) (lo := 0) (hi := 500) rfl rfl
          have z_255 := RS_s p_246.2 (a := (x_ns t nn (x_ns t nn (x_ns t nn a)))) (by omega)
          have z_256 := x_ns_b (t := t) (n := nn) (a := (x_ns t nn (x_ns t nn (x_ns t nn a)))) (by omega) (by omega)
          refine to_an (pc := 86) rw_213_86 rfl ?_
          refine to_c (pc := 87) rw_213_87 (x := (9 : Int32)) rfl rfl ?_
          refine s_v (pc := 89) rw_213_89 (dp0 hd (by decide)) (ls0 := [.ref 77, .int (9 : Int32)]) rfl (Nat.le_of_ble_eq_true rfl) (Nat.le_of_ble_eq_true rfl) rfl (to_rc rfl rfl rfl (g_o hG242 rfl)) rfl ?_
          have k_257 : (9 : Int32).toInt = 9 := rfl
          have j_258 := (TR_f (tg_42 F241) j_239)
          have j_259 := (W9_f (tg_44 F241) j_240)
          refine E_161 hX (dp1 hd (by decide)) hG242 p_246.1 (by omega) (by omega) (by omega) j_258 j_259 (by omega) (by omega) (c := (9 : Int32)) (t := t) (nn := nn) (a := (x_ns t nn (x_ns t nn (x_ns t nn (x_ns t nn a))))) (fun r260 M269 hG262 F261 p_263 p_264 p_265 p_266 p_267 p_268 => ?_)
          have F270 := FR.c F248 F261 tg_186
          have b_271 := g_b hG262 (a := 77) (i := 10) (lo := 0) (hi := 500) rfl rfl
          rcases (show r260.toInt = 0 ∨ r260.toInt = 1 by omega) with h272 | h272
          · skip
            have p_273 := p_267 (by omega)
            have p_274 := p_268 (by omega)
            clear p_266 p_267 p_268
            have z_275 : x_wps t nn sg a (x_ww t nn sg 1 n9 op A9) = Sum.inl (1, (x_ns t nn (x_ns t nn (x_ns t nn (x_ns t nn a))))) := z_253.trans (p_wyx (by omega))
            refine b_ine_f (pc := 92) rw_213_92 (A := r260.toInt) rfl (by omega) ?_
            refine to_c (pc := 95) rw_213_95 (x := (0 : Int32)) rfl rfl ?_
            refine s_r1 (pc := 96) rw_213_96 (A := 0) rfl (by decide) ?_
            have k_276 : (0 : Int32).toInt = 0 := rfl
            have t_277 : (M113.2.1 102 (e.toInt).toNat).toInt = r103.toInt := congrArg Int32.toInt (W_e W112)
            have t_278 : (M269.2.1 102 (e.toInt).toNat).toInt = (M113.2.1 102 (e.toInt).toNat).toInt := congrArg Int32.toInt (F_n F261 (show ¬ (102 = 77 ∧ (((e.toInt).toNat) = 4 ∨ ((e.toInt).toNat) = 5 ∨ 7 ≤ ((e.toInt).toNat) ∧ ((e.toInt).toNat) ≤ 10)) by omega) (F_n F241 (show ¬ (102 = 77 ∧ 7 ≤ ((e.toInt).toNat) ∧ ((e.toInt).toNat) ≤ 10) by omega) (W_n W224 (by omega) (F_n F216 (show ¬ (102 = 77 ∧ (((e.toInt).toNat) = 4 ∨ ((e.toInt).toNat) = 5)) by omega) (F_n F199 (show ¬ (102 = 77 ∧ 7 ≤ ((e.toInt).toNat) ∧ ((e.toInt).toNat) ≤ 10) by omega) (W_n W181 (by omega) (F_n F173 (show ¬ (102 = 77 ∧ (((e.toInt).toNat) = 4 ∨ ((e.toInt).toNat) = 5)) by omega) (F_n F149 (show ¬ (102 = 77 ∧ (((e.toInt).toNat) = 4 ∨ ((e.toInt).toNat) = 5 ∨ 7 ≤ ((e.toInt).toNat) ∧ ((e.toInt).toNat) ≤ 10)) by omega) (F_n F129 (show ¬ (102 = 77 ∧ 7 ≤ ((e.toInt).toNat) ∧ ((e.toInt).toNat) ≤ 10) by omega) rfl)))))))))
            have t_279 : (M182.2.1 103 (e.toInt).toNat).toInt = r172.toInt := congrArg Int32.toInt (W_e W181)
            have t_280 : (M269.2.1 103 (e.toInt).toNat).toInt = (M182.2.1 103 (e.toInt).toNat).toInt := congrArg Int32.toInt (F_n F261 (show ¬ (103 = 77 ∧ (((e.toInt).toNat) = 4 ∨ ((e.toInt).toNat) = 5 ∨ 7 ≤ ((e.toInt).toNat) ∧ ((e.toInt).toNat) ≤ 10)) by omega) (F_n F241 (show ¬ (103 = 77 ∧ 7 ≤ ((e.toInt).toNat) ∧ ((e.toInt).toNat) ≤ 10) by omega) (W_n W224 (by omega) (F_n F216 (show ¬ (103 = 77 ∧ (((e.toInt).toNat) = 4 ∨ ((e.toInt).toNat) = 5)) by omega) (F_n F199 (show ¬ (103 = 77 ∧ 7 ≤ ((e.toInt).toNat) ∧ ((e.toInt).toNat) ≤ 10) by omega) rfl)))))
            have t_281 : (M225.2.1 104 (e.toInt).toNat).toInt = r215.toInt := congrArg Int32.toInt (W_e W224)
            have t_282 : (M269.2.1 104 (e.toInt).toNat).toInt = (M225.2.1 104 (e.toInt).toNat).toInt := congrArg Int32.toInt (F_n F261 (show ¬ (104 = 77 ∧ (((e.toInt).toNat) = 4 ∨ ((e.toInt).toNat) = 5 ∨ 7 ≤ ((e.toInt).toNat) ∧ ((e.toInt).toNat) ≤ 10)) by omega) (F_n F241 (show ¬ (104 = 77 ∧ 7 ≤ ((e.toInt).toNat) ∧ ((e.toInt).toNat) ≤ 10) by omega) rfl))
            exact h (0 : Int32) M269 hG262 F270 (by decide) (by decide) (fun z => by exfalso; omega) (fun r i z z2 => (F_n F261 (show ¬ (r = 77 ∧ (i = 4 ∨ i = 5 ∨ 7 ≤ i ∧ i ≤ 10)) by omega) (F_n F241 (show ¬ (r = 77 ∧ 7 ≤ i ∧ i ≤ 10) by omega) (W_n W224 (by omega) (F_n F216 (show ¬ (r = 77 ∧ (i = 4 ∨ i = 5)) by omega) (F_n F199 (show ¬ (r = 77 ∧ 7 ≤ i ∧ i ≤ 10) by omega) (W_n W181 (by omega) (F_n F173 (show ¬ (r = 77 ∧ (i = 4 ∨ i = 5)) by omega) (F_n F149 (show ¬ (r = 77 ∧ (i = 4 ∨ i = 5 ∨ 7 ≤ i ∧ i ≤ 10)) by omega) (F_n F129 (show ¬ (r = 77 ∧ 7 ≤ i ∧ i ≤ 10) by omega) (W_n W112 (by omega) (F_n F104 (show ¬ (r = 77 ∧ (i = 4 ∨ i = 5)) by omega) rfl)))))))))))) (fun i hi => (F_n F261 (show ¬ (107 = 77 ∧ (i = 4 ∨ i = 5 ∨ 7 ≤ i ∧ i ≤ 10)) by omega) (F_n F241 (show ¬ (107 = 77 ∧ 7 ≤ i ∧ i ≤ 10) by omega) (W_n W224 (by omega) (F_n F216 (show ¬ (107 = 77 ∧ (i = 4 ∨ i = 5)) by omega) (F_n F199 (show ¬ (107 = 77 ∧ 7 ≤ i ∧ i ≤ 10) by omega) (W_n W181 (by omega) (F_n F173 (show ¬ (107 = 77 ∧ (i = 4 ∨ i = 5)) by omega) (F_n F149 (show ¬ (107 = 77 ∧ (i = 4 ∨ i = 5 ∨ 7 ≤ i ∧ i ≤ 10)) by omega) (F_n F129 (show ¬ (107 = 77 ∧ 7 ≤ i ∧ i ≤ 10) by omega) (W_n W112 (by omega) (F_n F104 (show ¬ (107 = 77 ∧ (i = 4 ∨ i = 5)) by omega) rfl)))))))))))) (fun i hi => (F_nl F261 (show ¬ (106 = 77 ∧ (i = 4 ∨ i = 5 ∨ 7 ≤ i ∧ i ≤ 10)) by omega) (F_nl F241 (show ¬ (106 = 77 ∧ 7 ≤ i ∧ i ≤ 10) by omega) (W_j W224 (F_nl F216 (show ¬ (106 = 77 ∧ (i = 4 ∨ i = 5)) by omega) (F_nl F199 (show ¬ (106 = 77 ∧ 7 ≤ i ∧ i ≤ 10) by omega) (W_j W181 (F_nl F173 (show ¬ (106 = 77 ∧ (i = 4 ∨ i = 5)) by omega) (F_nl F149 (show ¬ (106 = 77 ∧ (i = 4 ∨ i = 5 ∨ 7 ≤ i ∧ i ≤ 10)) by omega) (F_nl F129 (show ¬ (106 = 77 ∧ 7 ≤ i ∧ i ≤ 10) by omega) (W_j W112 (F_nl F104 (show ¬ (106 = 77 ∧ (i = 4 ∨ i = 5)) by omega) rfl)))))))))))) (fun z => by exfalso; omega) (fun z => by exfalso; omega) (fun _ => winl (by omega) (by omega) z_275)
          · skip
            have p_283 := p_266 (by omega)
            clear p_266 p_267 p_268
            have z_284 : x_wps t nn sg a (x_ww t nn sg 1 n9 op A9) = x_wnd t nn sg (x_ns t nn (x_ns t nn (x_ns t nn (x_ns t nn (x_ns t nn a))))) (x_ww t nn sg 1 n9 op A9) := z_253.trans (p_wy (by omega))
            have z_285 := x_ns_b (t := t) (n := nn) (a := (x_ns t nn (x_ns t nn (x_ns t nn (x_ns t nn a))))) (by omega) (by omega)
            refine b_ine_t (pc := 92) rw_213_92 (A := r260.toInt) rfl (by omega) ?_
            have b_286 := g_b hG262 (a := 77) (i := 8) (lo := 0) (hi := 5) rfl rfl
            have z_287 := RS_k p_265 (a := (x_ns t nn (x_ns t nn (x_ns t nn (x_ns t nn (x_ns t nn a)))))) (by omega)
            refine to_an (pc := 97) rw_213_97 rfl ?_
            refine tt_gI (pc := 98) rw_213_98 (g_o hG262 rfl) (v := (M269.2.1 77 8)) rfl ?_
            refine to_c (pc := 101) rw_213_101 (x := (3 : Int32)) rfl rfl ?_
            refine b_ceq (pc := 102) rw_213_102 (A := (M269.2.1 77 8).toInt) (B := 3) rfl rfl (fun h288 => ?_) (fun h288 => ?_)
            · refine to_an (pc := 119) rw_213_119 rfl ?_
              refine s_gR (pc := 120) rw_213_120 hG262 rfl (v := 106) rfl ?_
              refine to_in (pc := 123) rw_213_123 rfl ?_
              refine to_cl (pc := 124) rw_213_124 rfl (x := (0 : Int64)) rfl ?_
              refine s_las (pc := 125) rw_213_125 hG262 rfl (n := 40) rfl (A := e.toInt) rfl (by omega) (by omega) (fun M290 W289 => ?_)
              have hG291 := g_wl hG262 W289
              have F292 := FR.wl F270 W289 (show 106 = 77 ∧ ((e.toInt).toNat = 4 ∨ (e.toInt).toNat = 5 ∨ 7 ≤ (e.toInt).toNat ∧ (e.toInt).toNat ≤ 10) ∨ 102 ≤ 106 ∧ 106 ≤ 104 ∨ 106 = 106 ∨ 106 = 107 by omega)
              refine to_an (pc := 126) rw_213_126 rfl ?_
              refine s_gR (pc := 127) rw_213_127 hG291 rfl (v := 107) rfl ?_
              refine to_in (pc := 130) rw_213_130 rfl ?_
              refine to_c (pc := 131) rw_213_131 (x := (0 : Int32)) rfl rfl ?_
              refine s_ias (pc := 132) rw_213_132 hG291 rfl (n := 40) rfl (A := e.toInt) rfl (by omega) (by omega) (fun M294 W293 => ?_)
              have hG295 := g_wf hG291 W293 rfl rfl (by decide)
              have F296 := FR.w F292 W293 (show 107 = 77 ∧ ((e.toInt).toNat = 4 ∨ (e.toInt).toNat = 5 ∨ 7 ≤ (e.toInt).toNat ∧ (e.toInt).toNat ≤ 10) ∨ 102 ≤ 107 ∧ 107 ≤ 104 ∨ 107 = 106 ∨ 107 = 107 by omega)
              have j_297 := (RS_f (fun a i z => W_n W293 (tg_177 a i _ z) rfl) (RS_f (fun a i z => W_l W289 rfl) p_265))
              have j_298 := (TR_f (fun a i z => W_n W293 (tg_198 a i _ z) rfl) (TR_f (fun a i z => W_l W289 rfl) (TR_f (tg_181 F261) j_258)))
              have j_299 := (W9_f (fun a i z => W_n W293 (tg_199 a i _ z) rfl) (W9_f (fun a i z => W_l W289 rfl) (W9_f (tg_182 F261) j_259)))
              have j_300 := (PLk_f (fun a i z => W_n W293 (tg_200 a i _ z) rfl) (PLk_f (fun a i z => W_l W289 rfl) (PLk_f (tg_183 F261) (PLk_f (tg_174 F241) (PLk_f (fun a i z => W_n W224 (tg_201 a i _ z) rfl) (PLk_f (tg_184 F216) (PLk_f (tg_174 F199) (PLk_f (fun a i z => W_n W181 (tg_202 a i _ z) rfl) (PLk_f (tg_184 F173) (PLk_f (tg_183 F149) (PLk_f (tg_174 F129) (PLk_f (fun a i z => W_n W112 (tg_203 a i _ z) rfl) (PLk_f (tg_184 F104) q9)))))))))))))
              have z_301 := j_300.1.2.2.2.2.2.1
              have c_302 : M294.2.1 77 10 = (M269.2.1 77 10) := (W_n W293 (fun z => absurd z.1 (by decide)) (W_l W289 rfl))
              have t_303 : (M294.2.1 77 10).toInt = (M269.2.1 77 10).toInt := congrArg Int32.toInt c_302
              exact (U_213_0 (e := e) (t := t) (nn := nn) (a := a) (sg := sg) (C9 := C9) (n9 := n9) (op := op) (A9 := A9) hX hd q1 q2 q3 q4 q5 q6 q7 q8 q9 h ((501 - (M294.2.1 77 10).toInt).toNat + 1)) M294  hG295 F296 j_297 (by omega) (by omega) j_298 j_299 j_300 (fun r i z z2 => (W_n W293 (by omega) (W_l W289 (F_n F261 (show ¬ (r = 77 ∧ (i = 4 ∨ i = 5 ∨ 7 ≤ i ∧ i ≤ 10)) by omega) (F_n F241 (show ¬ (r = 77 ∧ 7 ≤ i ∧ i ≤ 10) by omega) (W_n W224 (by omega) (F_n F216 (show ¬ (r = 77 ∧ (i = 4 ∨ i = 5)) by omega) (F_n F199 (show ¬ (r = 77 ∧ 7 ≤ i ∧ i ≤ 10) by omega) (W_n W181 (by omega) (F_n F173 (show ¬ (r = 77 ∧ (i = 4 ∨ i = 5)) by omega) (F_n F149 (show ¬ (r = 77 ∧ (i = 4 ∨ i = 5 ∨ 7 ≤ i ∧ i ≤ 10)) by omega) (F_n F129 (show ¬ (r = 77 ∧ 7 ≤ i ∧ i ≤ 10) by omega) (W_n W112 (by omega) (F_n F104 (show ¬ (r = 77 ∧ (i = 4 ∨ i = 5)) by omega) rfl)))))))))))))) (fun i hi => (W_n W293 (by omega) (W_l W289 (F_n F261 (show ¬ (107 = 77 ∧ (i = 4 ∨ i = 5 ∨ 7 ≤ i ∧ i ≤ 10)) by omega) (F_n F241 (show ¬ (107 = 77 ∧ 7 ≤ i ∧ i ≤ 10) by omega) (W_n W224 (by omega) (F_n F216 (show ¬ (107 = 77 ∧ (i = 4 ∨ i = 5)) by omega) (F_n F199 (show ¬ (107 = 77 ∧ 7 ≤ i ∧ i ≤ 10) by omega) (W_n W181 (by omega) (F_n F173 (show ¬ (107 = 77 ∧ (i = 4 ∨ i = 5)) by omega) (F_n F149 (show ¬ (107 = 77 ∧ (i = 4 ∨ i = 5 ∨ 7 ≤ i ∧ i ≤ 10)) by omega) (F_n F129 (show ¬ (107 = 77 ∧ 7 ≤ i ∧ i ≤ 10) by omega) (W_n W112 (by omega) (F_n F104 (show ¬ (107 = 77 ∧ (i = 4 ∨ i = 5)) by omega) rfl)))))))))))))) (fun i hi => (W_j W293 (L_n W289 (by omega) (F_nl F261 (show ¬ (106 = 77 ∧ (i = 4 ∨ i = 5 ∨ 7 ≤ i ∧ i ≤ 10)) by omega) (F_nl F241 (show ¬ (106 = 77 ∧ 7 ≤ i ∧ i ≤ 10) by omega) (W_j W224 (F_nl F216 (show ¬ (106 = 77 ∧ (i = 4 ∨ i = 5)) by omega) (F_nl F199 (show ¬ (106 = 77 ∧ 7 ≤ i ∧ i ≤ 10) by omega) (W_j W181 (F_nl F173 (show ¬ (106 = 77 ∧ (i = 4 ∨ i = 5)) by omega) (F_nl F149 (show ¬ (106 = 77 ∧ (i = 4 ∨ i = 5 ∨ 7 ≤ i ∧ i ≤ 10)) by omega) (F_nl F129 (show ¬ (106 = 77 ∧ 7 ≤ i ∧ i ≤ 10) by omega) (W_j W112 (F_nl F104 (show ¬ (106 = 77 ∧ (i = 4 ∨ i = 5)) by omega) rfl)))))))))))))) ⟨(congrArg Int32.toInt ((W_n W293 (by omega) (W_l W289 (F_n F261 (show ¬ (102 = 77 ∧ ((e.toInt).toNat = 4 ∨ (e.toInt).toNat = 5 ∨ 7 ≤ (e.toInt).toNat ∧ (e.toInt).toNat ≤ 10)) by omega) (F_n F241 (show ¬ (102 = 77 ∧ 7 ≤ (e.toInt).toNat ∧ (e.toInt).toNat ≤ 10) by omega) (W_n W224 (by omega) (F_n F216 (show ¬ (102 = 77 ∧ ((e.toInt).toNat = 4 ∨ (e.toInt).toNat = 5)) by omega) (F_n F199 (show ¬ (102 = 77 ∧ 7 ≤ (e.toInt).toNat ∧ (e.toInt).toNat ≤ 10) by omega) (W_n W181 (by omega) (F_n F173 (show ¬ (102 = 77 ∧ ((e.toInt).toNat = 4 ∨ (e.toInt).toNat = 5)) by omega) (F_n F149 (show ¬ (102 = 77 ∧ ((e.toInt).toNat = 4 ∨ (e.toInt).toNat = 5 ∨ 7 ≤ (e.toInt).toNat ∧ (e.toInt).toNat ≤ 10)) by omega) (F_n F129 (show ¬ (102 = 77 ∧ 7 ≤ (e.toInt).toNat ∧ (e.toInt).toNat ≤ 10) by omega) (W_e W112)))))))))))))).trans (show r103.toInt = x_kp t nn a by omega), (congrArg Int32.toInt ((W_n W293 (by omega) (W_l W289 (F_n F261 (show ¬ (103 = 77 ∧ ((e.toInt).toNat = 4 ∨ (e.toInt).toNat = 5 ∨ 7 ≤ (e.toInt).toNat ∧ (e.toInt).toNat ≤ 10)) by omega) (F_n F241 (show ¬ (103 = 77 ∧ 7 ≤ (e.toInt).toNat ∧ (e.toInt).toNat ≤ 10) by omega) (W_n W224 (by omega) (F_n F216 (show ¬ (103 = 77 ∧ ((e.toInt).toNat = 4 ∨ (e.toInt).toNat = 5)) by omega) (F_n F199 (show ¬ (103 = 77 ∧ 7 ≤ (e.toInt).toNat ∧ (e.toInt).toNat ≤ 10) by omega) (W_e W181)))))))))).trans (show r172.toInt = x_kp t nn (x_ns t nn (x_ns t nn a)) by omega), (congrArg Int32.toInt ((W_n W293 (by omega) (W_l W289 (F_n F261 (show ¬ (104 = 77 ∧ ((e.toInt).toNat = 4 ∨ (e.toInt).toNat = 5 ∨ 7 ≤ (e.toInt).toNat ∧ (e.toInt).toNat ≤ 10)) by omega) (F_n F241 (show ¬ (104 = 77 ∧ 7 ≤ (e.toInt).toNat ∧ (e.toInt).toNat ≤ 10) by omega) (W_e W224))))))).trans (show r215.toInt = x_kp t nn (x_ns t nn (x_ns t nn (x_ns t nn a))) by omega)⟩ (nd_i (by omega) ((W_e W293)) ((W_j W293 (L_e W289))) (by omega)) ((z_284.trans (w1_n (n := n9) (op := op) (A := A9) (by omega) (by omega) (by omega)).symm).trans (w_v rfl (by omega))) (by omega)
            · refine to_an (pc := 105) rw_213_105 rfl ?_
              refine tt_gI (pc := 106) rw_213_106 (g_o hG262 rfl) (v := (M269.2.1 77 8)) rfl ?_
              refine to_c (pc := 109) rw_213_109 (x := (2 : Int32)) rfl rfl ?_
              refine b_ceq (pc := 110) rw_213_110 (A := (M269.2.1 77 8).toInt) (B := 2) rfl rfl (fun h304 => ?_) (fun h304 => ?_)
              · refine to_an (pc := 119) rw_213_119 rfl ?_
                refine s_gR (pc := 120) rw_213_120 hG262 rfl (v := 106) rfl ?_
                refine to_in (pc := 123) rw_213_123 rfl ?_
                refine to_cl (pc := 124) rw_213_124 rfl (x := (0 : Int64)) rfl ?_
                refine s_las (pc := 125) rw_213_125 hG262 rfl (n := 40) rfl (A := e.toInt) rfl (by omega) (by omega) (fun M306 W305 => ?_)
                have hG307 := g_wl hG262 W305
                have F308 := FR.wl F270 W305 (show 106 = 77 ∧ ((e.toInt).toNat = 4 ∨ (e.toInt).toNat = 5 ∨ 7 ≤ (e.toInt).toNat ∧ (e.toInt).toNat ≤ 10) ∨ 102 ≤ 106 ∧ 106 ≤ 104 ∨ 106 = 106 ∨ 106 = 107 by omega)
                refine to_an (pc := 126) rw_213_126 rfl ?_
                refine s_gR (pc := 127) rw_213_127 hG307 rfl (v := 107) rfl ?_
                refine to_in (pc := 130) rw_213_130 rfl ?_
                refine to_c (pc := 131) rw_213_131 (x := (0 : Int32)) rfl rfl ?_
                refine s_ias (pc := 132) rw_213_132 hG307 rfl (n := 40) rfl (A := e.toInt) rfl (by omega) (by omega) (fun M310 W309 => ?_)
                have hG311 := g_wf hG307 W309 rfl rfl (by decide)
                have F312 := FR.w F308 W309 (show 107 = 77 ∧ ((e.toInt).toNat = 4 ∨ (e.toInt).toNat = 5 ∨ 7 ≤ (e.toInt).toNat ∧ (e.toInt).toNat ≤ 10) ∨ 102 ≤ 107 ∧ 107 ≤ 104 ∨ 107 = 106 ∨ 107 = 107 by omega)
                have j_313 := (RS_f (fun a i z => W_n W309 (tg_177 a i _ z) rfl) (RS_f (fun a i z => W_l W305 rfl) p_265))
                have j_314 := (TR_f (fun a i z => W_n W309 (tg_198 a i _ z) rfl) (TR_f (fun a i z => W_l W305 rfl) (TR_f (tg_181 F261) j_258)))
                have j_315 := (W9_f (fun a i z => W_n W309 (tg_199 a i _ z) rfl) (W9_f (fun a i z => W_l W305 rfl) (W9_f (tg_182 F261) j_259)))
                have j_316 := (PLk_f (fun a i z => W_n W309 (tg_200 a i _ z) rfl) (PLk_f (fun a i z => W_l W305 rfl) (PLk_f (tg_183 F261) (PLk_f (tg_174 F241) (PLk_f (fun a i z => W_n W224 (tg_201 a i _ z) rfl) (PLk_f (tg_184 F216) (PLk_f (tg_174 F199) (PLk_f (fun a i z => W_n W181 (tg_202 a i _ z) rfl) (PLk_f (tg_184 F173) (PLk_f (tg_183 F149) (PLk_f (tg_174 F129) (PLk_f (fun a i z => W_n W112 (tg_203 a i _ z) rfl) (PLk_f (tg_184 F104) q9)))))))))))))
                have z_317 := j_316.1.2.2.2.2.2.1
                have c_318 : M310.2.1 77 10 = (M269.2.1 77 10) := (W_n W309 (fun z => absurd z.1 (by decide)) (W_l W305 rfl))
                have t_319 : (M310.2.1 77 10).toInt = (M269.2.1 77 10).toInt := congrArg Int32.toInt c_318
                exact (U_213_0 (e := e) (t := t) (nn := nn) (a := a) (sg := sg) (C9 := C9) (n9 := n9) (op := op) (A9 := A9) hX hd q1 q2 q3 q4 q5 q6 q7 q8 q9 h ((501 - (M310.2.1 77 10).toInt).toNat + 1)) M310  hG311 F312 j_313 (by omega) (by omega) j_314 j_315 j_316 (fun r i z z2 => (W_n W309 (by omega) (W_l W305 (F_n F261 (show ¬ (r = 77 ∧ (i = 4 ∨ i = 5 ∨ 7 ≤ i ∧ i ≤ 10)) by omega) (F_n F241 (show ¬ (r = 77 ∧ 7 ≤ i ∧ i ≤ 10) by omega) (W_n W224 (by omega) (F_n F216 (show ¬ (r = 77 ∧ (i = 4 ∨ i = 5)) by omega) (F_n F199 (show ¬ (r = 77 ∧ 7 ≤ i ∧ i ≤ 10) by omega) (W_n W181 (by omega) (F_n F173 (show ¬ (r = 77 ∧ (i = 4 ∨ i = 5)) by omega) (F_n F149 (show ¬ (r = 77 ∧ (i = 4 ∨ i = 5 ∨ 7 ≤ i ∧ i ≤ 10)) by omega) (F_n F129 (show ¬ (r = 77 ∧ 7 ≤ i ∧ i ≤ 10) by omega) (W_n W112 (by omega) (F_n F104 (show ¬ (r = 77 ∧ (i = 4 ∨ i = 5)) by omega) rfl)))))))))))))) (fun i hi => (W_n W309 (by omega) (W_l W305 (F_n F261 (show ¬ (107 = 77 ∧ (i = 4 ∨ i = 5 ∨ 7 ≤ i ∧ i ≤ 10)) by omega) (F_n F241 (show ¬ (107 = 77 ∧ 7 ≤ i ∧ i ≤ 10) by omega) (W_n W224 (by omega) (F_n F216 (show ¬ (107 = 77 ∧ (i = 4 ∨ i = 5)) by omega) (F_n F199 (show ¬ (107 = 77 ∧ 7 ≤ i ∧ i ≤ 10) by omega) (W_n W181 (by omega) (F_n F173 (show ¬ (107 = 77 ∧ (i = 4 ∨ i = 5)) by omega) (F_n F149 (show ¬ (107 = 77 ∧ (i = 4 ∨ i = 5 ∨ 7 ≤ i ∧ i ≤ 10)) by omega) (F_n F129 (show ¬ (107 = 77 ∧ 7 ≤ i ∧ i ≤ 10) by omega) (W_n W112 (by omega) (F_n F104 (show ¬ (107 = 77 ∧ (i = 4 ∨ i = 5)) by omega) rfl)))))))))))))) (fun i hi => (W_j W309 (L_n W305 (by omega) (F_nl F261 (show ¬ (106 = 77 ∧ (i = 4 ∨ i = 5 ∨ 7 ≤ i ∧ i ≤ 10)) by omega) (F_nl F241 (show ¬ (106 = 77 ∧ 7 ≤ i ∧ i ≤ 10) by omega) (W_j W224 (F_nl F216 (show ¬ (106 = 77 ∧ (i = 4 ∨ i = 5)) by omega) (F_nl F199 (show ¬ (106 = 77 ∧ 7 ≤ i ∧ i ≤ 10) by omega) (W_j W181 (F_nl F173 (show ¬ (106 = 77 ∧ (i = 4 ∨ i = 5)) by omega) (F_nl F149 (show ¬ (106 = 77 ∧ (i = 4 ∨ i = 5 ∨ 7 ≤ i ∧ i ≤ 10)) by omega) (F_nl F129 (show ¬ (106 = 77 ∧ 7 ≤ i ∧ i ≤ 10) by omega) (W_j W112 (F_nl F104 (show ¬ (106 = 77 ∧ (i = 4 ∨ i = 5)) by omega) rfl)))))))))))))) ⟨(congrArg Int32.toInt ((W_n W309 (by omega) (W_l W305 (F_n F261 (show ¬ (102 = 77 ∧ ((e.toInt).toNat = 4 ∨ (e.toInt).toNat = 5 ∨ 7 ≤ (e.toInt).toNat ∧ (e.toInt).toNat ≤ 10)) by omega) (F_n F241 (show ¬ (102 = 77 ∧ 7 ≤ (e.toInt).toNat ∧ (e.toInt).toNat ≤ 10) by omega) (W_n W224 (by omega) (F_n F216 (show ¬ (102 = 77 ∧ ((e.toInt).toNat = 4 ∨ (e.toInt).toNat = 5)) by omega) (F_n F199 (show ¬ (102 = 77 ∧ 7 ≤ (e.toInt).toNat ∧ (e.toInt).toNat ≤ 10) by omega) (W_n W181 (by omega) (F_n F173 (show ¬ (102 = 77 ∧ ((e.toInt).toNat = 4 ∨ (e.toInt).toNat = 5)) by omega) (F_n F149 (show ¬ (102 = 77 ∧ ((e.toInt).toNat = 4 ∨ (e.toInt).toNat = 5 ∨ 7 ≤ (e.toInt).toNat ∧ (e.toInt).toNat ≤ 10)) by omega) (F_n F129 (show ¬ (102 = 77 ∧ 7 ≤ (e.toInt).toNat ∧ (e.toInt).toNat ≤ 10) by omega) (W_e W112)))))))))))))).trans (show r103.toInt = x_kp t nn a by omega), (congrArg Int32.toInt ((W_n W309 (by omega) (W_l W305 (F_n F261 (show ¬ (103 = 77 ∧ ((e.toInt).toNat = 4 ∨ (e.toInt).toNat = 5 ∨ 7 ≤ (e.toInt).toNat ∧ (e.toInt).toNat ≤ 10)) by omega) (F_n F241 (show ¬ (103 = 77 ∧ 7 ≤ (e.toInt).toNat ∧ (e.toInt).toNat ≤ 10) by omega) (W_n W224 (by omega) (F_n F216 (show ¬ (103 = 77 ∧ ((e.toInt).toNat = 4 ∨ (e.toInt).toNat = 5)) by omega) (F_n F199 (show ¬ (103 = 77 ∧ 7 ≤ (e.toInt).toNat ∧ (e.toInt).toNat ≤ 10) by omega) (W_e W181)))))))))).trans (show r172.toInt = x_kp t nn (x_ns t nn (x_ns t nn a)) by omega), (congrArg Int32.toInt ((W_n W309 (by omega) (W_l W305 (F_n F261 (show ¬ (104 = 77 ∧ ((e.toInt).toNat = 4 ∨ (e.toInt).toNat = 5 ∨ 7 ≤ (e.toInt).toNat ∧ (e.toInt).toNat ≤ 10)) by omega) (F_n F241 (show ¬ (104 = 77 ∧ 7 ≤ (e.toInt).toNat ∧ (e.toInt).toNat ≤ 10) by omega) (W_e W224))))))).trans (show r215.toInt = x_kp t nn (x_ns t nn (x_ns t nn (x_ns t nn a))) by omega)⟩ (nd_i (by omega) ((W_e W309)) ((W_j W309 (L_e W305))) (by omega)) ((z_284.trans (w1_n (n := n9) (op := op) (A := A9) (by omega) (by omega) (by omega)).symm).trans (w_v rfl (by omega))) (by omega)
              · refine to_an (pc := 113) rw_213_113 rfl ?_
                refine to_c (pc := 114) rw_213_114 (x := (1 : Int32)) rfl rfl ?_
                refine s_v (pc := 115) rw_213_115 (dp0 hd (by decide)) (ls0 := [.ref 77, .int (1 : Int32)]) rfl (Nat.le_of_ble_eq_true rfl) (Nat.le_of_ble_eq_true rfl) rfl (to_rc rfl rfl rfl (g_o hG262 rfl)) rfl ?_
                refine to_an (pc := 0) rw_152_0 rfl ?_
                refine to_in (pc := 1) rw_152_1 rfl ?_
                refine s_pI (pc := 2) rw_152_2 hG262 rfl (fun M321 W320 => ?_)
                have hG322 := g_wf hG262 W320 rfl rfl (by decide)
                have F323 := FR.w F270 W320 (show 77 = 77 ∧ (4 = 4 ∨ 4 = 5 ∨ 7 ≤ 4 ∧ 4 ≤ 10) ∨ 102 ≤ 77 ∧ 77 ≤ 104 ∨ 77 = 106 ∨ 77 = 107 by decide)
                refine to_an (pc := 5) rw_152_5 rfl ?_
                refine to_an (pc := 6) rw_152_6 rfl ?_
                have c_324 : M321.2.1 77 10 = (M269.2.1 77 10) := (W_n W320 (by decide) rfl)
                refine tt_gI (pc := 7) rw_152_7 (g_o hG322 rfl) (v := (M269.2.1 77 10)) c_324 ?_
                refine s_pI (pc := 10) rw_152_10 hG322 rfl (fun M326 W325 => ?_)
                have hG327 := g_wf hG322 W325 rfl rfl (by decide)
                have F328 := FR.w F323 W325 (show 77 = 77 ∧ (5 = 4 ∨ 5 = 5 ∨ 7 ≤ 5 ∧ 5 ≤ 10) ∨ 102 ≤ 77 ∧ 77 ≤ 104 ∨ 77 = 106 ∨ 77 = 107 by decide)
                refine to_c (pc := 13) rw_152_13 (x := (0 : Int32)) rfl rfl ?_
                refine s_r1 (pc := 14) rw_152_14 (A := 0) rfl (by decide) ?_
                refine s_r1 (pc := 118) rw_213_118 (A := 0) rfl (by decide) ?_
                have k_329 : (0 : Int32).toInt = 0 := rfl
                have t_330 : (M113.2.1 102 (e.toInt).toNat).toInt = r103.toInt := congrArg Int32.toInt (W_e W112)
                have t_331 : (M326.2.1 102 (e.toInt).toNat).toInt = (M113.2.1 102 (e.toInt).toNat).toInt := congrArg Int32.toInt (W_n W325 (by omega) (W_n W320 (by omega) (F_n F261 (show ¬ (102 = 77 ∧ (((e.toInt).toNat) = 4 ∨ ((e.toInt).toNat) = 5 ∨ 7 ≤ ((e.toInt).toNat) ∧ ((e.toInt).toNat) ≤ 10)) by omega) (F_n F241 (show ¬ (102 = 77 ∧ 7 ≤ ((e.toInt).toNat) ∧ ((e.toInt).toNat) ≤ 10) by omega) (W_n W224 (by omega) (F_n F216 (show ¬ (102 = 77 ∧ (((e.toInt).toNat) = 4 ∨ ((e.toInt).toNat) = 5)) by omega) (F_n F199 (show ¬ (102 = 77 ∧ 7 ≤ ((e.toInt).toNat) ∧ ((e.toInt).toNat) ≤ 10) by omega) (W_n W181 (by omega) (F_n F173 (show ¬ (102 = 77 ∧ (((e.toInt).toNat) = 4 ∨ ((e.toInt).toNat) = 5)) by omega) (F_n F149 (show ¬ (102 = 77 ∧ (((e.toInt).toNat) = 4 ∨ ((e.toInt).toNat) = 5 ∨ 7 ≤ ((e.toInt).toNat) ∧ ((e.toInt).toNat) ≤ 10)) by omega) (F_n F129 (show ¬ (102 = 77 ∧ 7 ≤ ((e.toInt).toNat) ∧ ((e.toInt).toNat) ≤ 10) by omega) rfl)))))))))))
                have t_332 : (M182.2.1 103 (e.toInt).toNat).toInt = r172.toInt := congrArg Int32.toInt (W_e W181)
                have t_333 : (M326.2.1 103 (e.toInt).toNat).toInt = (M182.2.1 103 (e.toInt).toNat).toInt := congrArg Int32.toInt (W_n W325 (by omega) (W_n W320 (by omega) (F_n F261 (show ¬ (103 = 77 ∧ (((e.toInt).toNat) = 4 ∨ ((e.toInt).toNat) = 5 ∨ 7 ≤ ((e.toInt).toNat) ∧ ((e.toInt).toNat) ≤ 10)) by omega) (F_n F241 (show ¬ (103 = 77 ∧ 7 ≤ ((e.toInt).toNat) ∧ ((e.toInt).toNat) ≤ 10) by omega) (W_n W224 (by omega) (F_n F216 (show ¬ (103 = 77 ∧ (((e.toInt).toNat) = 4 ∨ ((e.toInt).toNat) = 5)) by omega) (F_n F199 (show ¬ (103 = 77 ∧ 7 ≤ ((e.toInt).toNat) ∧ ((e.toInt).toNat) ≤ 10) by omega) rfl)))))))
                have t_334 : (M225.2.1 104 (e.toInt).toNat).toInt = r215.toInt := congrArg Int32.toInt (W_e W224)
                have t_335 : (M326.2.1 104 (e.toInt).toNat).toInt = (M225.2.1 104 (e.toInt).toNat).toInt := congrArg Int32.toInt (W_n W325 (by omega) (W_n W320 (by omega) (F_n F261 (show ¬ (104 = 77 ∧ (((e.toInt).toNat) = 4 ∨ ((e.toInt).toNat) = 5 ∨ 7 ≤ ((e.toInt).toNat) ∧ ((e.toInt).toNat) ≤ 10)) by omega) (F_n F241 (show ¬ (104 = 77 ∧ 7 ≤ ((e.toInt).toNat) ∧ ((e.toInt).toNat) ≤ 10) by omega) rfl))))
                have c_336 : M326.2.1 77 4 = (1 : Int32) := (W_n W325 (by decide) (W_e W320))
                have k_337 : (1 : Int32).toInt = 1 := rfl
                have t_338 : (M326.2.1 77 4).toInt = (1 : Int32).toInt := congrArg Int32.toInt c_336
                have c_339 : M326.2.1 77 5 = (M269.2.1 77 10) := (W_e W325)
                have t_340 : (M326.2.1 77 5).toInt = (M269.2.1 77 10).toInt := congrArg Int32.toInt c_339
                have z_341 : x_wps t nn sg a (x_ww t nn sg 1 n9 op A9) = Sum.inl (1, (x_ns t nn (x_ns t nn (x_ns t nn (x_ns t nn (x_ns t nn a)))))) := z_284.trans ((p_ndn (by omega)).trans (p_nb1 (by omega)))
                exact h (0 : Int32) M326 hG327 F328 (by decide) (by decide) (fun z => by exfalso; omega) (fun r i z z2 => (W_n W325 (by omega) (W_n W320 (by omega) (F_n F261 (show ¬ (r = 77 ∧ (i = 4 ∨ i = 5 ∨ 7 ≤ i ∧ i ≤ 10)) by omega) (F_n F241 (show ¬ (r = 77 ∧ 7 ≤ i ∧ i ≤ 10) by omega) (W_n W224 (by omega) (F_n F216 (show ¬ (r = 77 ∧ (i = 4 ∨ i = 5)) by omega) (F_n F199 (show ¬ (r = 77 ∧ 7 ≤ i ∧ i ≤ 10) by omega) (W_n W181 (by omega) (F_n F173 (show ¬ (r = 77 ∧ (i = 4 ∨ i = 5)) by omega) (F_n F149 (show ¬ (r = 77 ∧ (i = 4 ∨ i = 5 ∨ 7 ≤ i ∧ i ≤ 10)) by omega) (F_n F129 (show ¬ (r = 77 ∧ 7 ≤ i ∧ i ≤ 10) by omega) (W_n W112 (by omega) (F_n F104 (show ¬ (r = 77 ∧ (i = 4 ∨ i = 5)) by omega) rfl)))))))))))))) (fun i hi => (W_n W325 (by omega) (W_n W320 (by omega) (F_n F261 (show ¬ (107 = 77 ∧ (i = 4 ∨ i = 5 ∨ 7 ≤ i ∧ i ≤ 10)) by omega) (F_n F241 (show ¬ (107 = 77 ∧ 7 ≤ i ∧ i ≤ 10) by omega) (W_n W224 (by omega) (F_n F216 (show ¬ (107 = 77 ∧ (i = 4 ∨ i = 5)) by omega) (F_n F199 (show ¬ (107 = 77 ∧ 7 ≤ i ∧ i ≤ 10) by omega) (W_n W181 (by omega) (F_n F173 (show ¬ (107 = 77 ∧ (i = 4 ∨ i = 5)) by omega) (F_n F149 (show ¬ (107 = 77 ∧ (i = 4 ∨ i = 5 ∨ 7 ≤ i ∧ i ≤ 10)) by omega) (F_n F129 (show ¬ (107 = 77 ∧ 7 ≤ i ∧ i ≤ 10) by omega) (W_n W112 (by omega) (F_n F104 (show ¬ (107 = 77 ∧ (i = 4 ∨ i = 5)) by omega) rfl)))))))))))))) (fun i hi => (W_j W325 (W_j W320 (F_nl F261 (show ¬ (106 = 77 ∧ (i = 4 ∨ i = 5 ∨ 7 ≤ i ∧ i ≤ 10)) by omega) (F_nl F241 (show ¬ (106 = 77 ∧ 7 ≤ i ∧ i ≤ 10) by omega) (W_j W224 (F_nl F216 (show ¬ (106 = 77 ∧ (i = 4 ∨ i = 5)) by omega) (F_nl F199 (show ¬ (106 = 77 ∧ 7 ≤ i ∧ i ≤ 10) by omega) (W_j W181 (F_nl F173 (show ¬ (106 = 77 ∧ (i = 4 ∨ i = 5)) by omega) (F_nl F149 (show ¬ (106 = 77 ∧ (i = 4 ∨ i = 5 ∨ 7 ≤ i ∧ i ≤ 10)) by omega) (F_nl F129 (show ¬ (106 = 77 ∧ 7 ≤ i ∧ i ≤ 10) by omega) (W_j W112 (F_nl F104 (show ¬ (106 = 77 ∧ (i = 4 ∨ i = 5)) by omega) rfl)))))))))))))) (fun z => by exfalso; omega) (fun z => by exfalso; omega) (fun _ => winl (by omega) (by omega) z_341)
        · refine to_c (pc := 80) rw_213_80 (x := (0 : Int32)) rfl rfl ?_
          refine s_r1 (pc := 81) rw_213_81 (A := 0) rfl (by decide) ?_
          have k_342 : (0 : Int32).toInt = 0 := rfl
          have t_343 : (M113.2.1 102 (e.toInt).toNat).toInt = r103.toInt := congrArg Int32.toInt (W_e W112)
          have t_344 : (M225.2.1 102 (e.toInt).toNat).toInt = (M113.2.1 102 (e.toInt).toNat).toInt := congrArg Int32.toInt (W_n W224 (by omega) (F_n F216 (show ¬ (102 = 77 ∧ (((e.toInt).toNat) = 4 ∨ ((e.toInt).toNat) = 5)) by omega) (F_n F199 (show ¬ (102 = 77 ∧ 7 ≤ ((e.toInt).toNat) ∧ ((e.toInt).toNat) ≤ 10) by omega) (W_n W181 (by omega) (F_n F173 (show ¬ (102 = 77 ∧ (((e.toInt).toNat) = 4 ∨ ((e.toInt).toNat) = 5)) by omega) (F_n F149 (show ¬ (102 = 77 ∧ (((e.toInt).toNat) = 4 ∨ ((e.toInt).toNat) = 5 ∨ 7 ≤ ((e.toInt).toNat) ∧ ((e.toInt).toNat) ≤ 10)) by omega) (F_n F129 (show ¬ (102 = 77 ∧ 7 ≤ ((e.toInt).toNat) ∧ ((e.toInt).toNat) ≤ 10) by omega) rfl)))))))
          have t_345 : (M182.2.1 103 (e.toInt).toNat).toInt = r172.toInt := congrArg Int32.toInt (W_e W181)
          have t_346 : (M225.2.1 103 (e.toInt).toNat).toInt = (M182.2.1 103 (e.toInt).toNat).toInt := congrArg Int32.toInt (W_n W224 (by omega) (F_n F216 (show ¬ (103 = 77 ∧ (((e.toInt).toNat) = 4 ∨ ((e.toInt).toNat) = 5)) by omega) (F_n F199 (show ¬ (103 = 77 ∧ 7 ≤ ((e.toInt).toNat) ∧ ((e.toInt).toNat) ≤ 10) by omega) rfl)))
          have t_347 : (M225.2.1 104 (e.toInt).toNat).toInt = r215.toInt := congrArg Int32.toInt (W_e W224)
          have c_348 : M225.2.1 77 4 = (M222.2.1 77 4) := (W_n W224 (fun z => absurd z.1 (by decide)) rfl)
          have t_349 : (M225.2.1 77 4).toInt = (M222.2.1 77 4).toInt := congrArg Int32.toInt c_348
          have c_350 : M225.2.1 77 5 = (M222.2.1 77 5) := (W_n W224 (fun z => absurd z.1 (by decide)) rfl)
          have t_351 : (M225.2.1 77 5).toInt = (M222.2.1 77 5).toInt := congrArg Int32.toInt c_350
          have z_352 : x_wps t nn sg a (x_ww t nn sg 1 n9 op A9) = Sum.inl (1, (x_ns t nn (x_ns t nn (x_ns t nn a)))) := z_211.trans (p_wpx (by omega))
          exact h (0 : Int32) M225 hG226 F227 (by decide) (by decide) (fun z => by exfalso; omega) (fun r i z z2 => (W_n W224 (by omega) (F_n F216 (show ¬ (r = 77 ∧ (i = 4 ∨ i = 5)) by omega) (F_n F199 (show ¬ (r = 77 ∧ 7 ≤ i ∧ i ≤ 10) by omega) (W_n W181 (by omega) (F_n F173 (show ¬ (r = 77 ∧ (i = 4 ∨ i = 5)) by omega) (F_n F149 (show ¬ (r = 77 ∧ (i = 4 ∨ i = 5 ∨ 7 ≤ i ∧ i ≤ 10)) by omega) (F_n F129 (show ¬ (r = 77 ∧ 7 ≤ i ∧ i ≤ 10) by omega) (W_n W112 (by omega) (F_n F104 (show ¬ (r = 77 ∧ (i = 4 ∨ i = 5)) by omega) rfl)))))))))) (fun i hi => (W_n W224 (by omega) (F_n F216 (show ¬ (107 = 77 ∧ (i = 4 ∨ i = 5)) by omega) (F_n F199 (show ¬ (107 = 77 ∧ 7 ≤ i ∧ i ≤ 10) by omega) (W_n W181 (by omega) (F_n F173 (show ¬ (107 = 77 ∧ (i = 4 ∨ i = 5)) by omega) (F_n F149 (show ¬ (107 = 77 ∧ (i = 4 ∨ i = 5 ∨ 7 ≤ i ∧ i ≤ 10)) by omega) (F_n F129 (show ¬ (107 = 77 ∧ 7 ≤ i ∧ i ≤ 10) by omega) (W_n W112 (by omega) (F_n F104 (show ¬ (107 = 77 ∧ (i = 4 ∨ i = 5)) by omega) rfl)))))))))) (fun i hi => (W_j W224 (F_nl F216 (show ¬ (106 = 77 ∧ (i = 4 ∨ i = 5)) by omega) (F_nl F199 (show ¬ (106 = 77 ∧ 7 ≤ i ∧ i ≤ 10) by omega) (W_j W181 (F_nl F173 (show ¬ (106 = 77 ∧ (i = 4 ∨ i = 5)) by omega) (F_nl F149 (show ¬ (106 = 77 ∧ (i = 4 ∨ i = 5 ∨ 7 ≤ i ∧ i ≤ 10)) by omega) (F_nl F129 (show ¬ (106 = 77 ∧ 7 ≤ i ∧ i ≤ 10) by omega) (W_j W112 (F_nl F104 (show ¬ (106 = 77 ∧ (i = 4 ∨ i = 5)) by omega) rfl)))))))))) (fun z => by exfalso; omega) (fun z => by exfalso; omega) (fun _ => winl (by omega) (by omega) z_352)
      · refine to_c (pc := 55) rw_213_55 (x := (0 : Int32)) rfl rfl ?_
        refine s_r1 (pc := 56) rw_213_56 (A := 0) rfl (by decide) ?_
        have k_353 : (0 : Int32).toInt = 0 := rfl
        have t_354 : (M113.2.1 102 (e.toInt).toNat).toInt = r103.toInt := congrArg Int32.toInt (W_e W112)
        have t_355 : (M182.2.1 102 (e.toInt).toNat).toInt = (M113.2.1 102 (e.toInt).toNat).toInt := congrArg Int32.toInt (W_n W181 (by omega) (F_n F173 (show ¬ (102 = 77 ∧ (((e.toInt).toNat) = 4 ∨ ((e.toInt).toNat) = 5)) by omega) (F_n F149 (show ¬ (102 = 77 ∧ (((e.toInt).toNat) = 4 ∨ ((e.toInt).toNat) = 5 ∨ 7 ≤ ((e.toInt).toNat) ∧ ((e.toInt).toNat) ≤ 10)) by omega) (F_n F129 (show ¬ (102 = 77 ∧ 7 ≤ ((e.toInt).toNat) ∧ ((e.toInt).toNat) ≤ 10) by omega) rfl))))
        have t_356 : (M182.2.1 103 (e.toInt).toNat).toInt = r172.toInt := congrArg Int32.toInt (W_e W181)
        have t_357 : (M182.2.1 104 (e.toInt).toNat).toInt = (M.2.1 104 (e.toInt).toNat).toInt := congrArg Int32.toInt (W_n W181 (by omega) (F_n F173 (show ¬ (104 = 77 ∧ (((e.toInt).toNat) = 4 ∨ ((e.toInt).toNat) = 5)) by omega) (F_n F149 (show ¬ (104 = 77 ∧ (((e.toInt).toNat) = 4 ∨ ((e.toInt).toNat) = 5 ∨ 7 ≤ ((e.toInt).toNat) ∧ ((e.toInt).toNat) ≤ 10)) by omega) (F_n F129 (show ¬ (104 = 77 ∧ 7 ≤ ((e.toInt).toNat) ∧ ((e.toInt).toNat) ≤ 10) by omega) (W_n W112 (by omega) (F_n F104 (show ¬ (104 = 77 ∧ (((e.toInt).toNat) = 4 ∨ ((e.toInt).toNat) = 5)) by omega) rfl))))))
        have c_358 : M182.2.1 77 4 = (M179.2.1 77 4) := (W_n W181 (fun z => absurd z.1 (by decide)) rfl)
        have t_359 : (M182.2.1 77 4).toInt = (M179.2.1 77 4).toInt := congrArg Int32.toInt c_358
        have c_360 : M182.2.1 77 5 = (M179.2.1 77 5) := (W_n W181 (fun z => absurd z.1 (by decide)) rfl)
        have t_361 : (M182.2.1 77 5).toInt = (M179.2.1 77 5).toInt := congrArg Int32.toInt c_360
        have z_362 : x_wps t nn sg a (x_ww t nn sg 1 n9 op A9) = Sum.inl (1, (x_ns t nn (x_ns t nn a))) := z_170.trans (p_wpx (by omega))
        exact h (0 : Int32) M182 hG183 F184 (by decide) (by decide) (fun z => by exfalso; omega) (fun r i z z2 => (W_n W181 (by omega) (F_n F173 (show ¬ (r = 77 ∧ (i = 4 ∨ i = 5)) by omega) (F_n F149 (show ¬ (r = 77 ∧ (i = 4 ∨ i = 5 ∨ 7 ≤ i ∧ i ≤ 10)) by omega) (F_n F129 (show ¬ (r = 77 ∧ 7 ≤ i ∧ i ≤ 10) by omega) (W_n W112 (by omega) (F_n F104 (show ¬ (r = 77 ∧ (i = 4 ∨ i = 5)) by omega) rfl))))))) (fun i hi => (W_n W181 (by omega) (F_n F173 (show ¬ (107 = 77 ∧ (i = 4 ∨ i = 5)) by omega) (F_n F149 (show ¬ (107 = 77 ∧ (i = 4 ∨ i = 5 ∨ 7 ≤ i ∧ i ≤ 10)) by omega) (F_n F129 (show ¬ (107 = 77 ∧ 7 ≤ i ∧ i ≤ 10) by omega) (W_n W112 (by omega) (F_n F104 (show ¬ (107 = 77 ∧ (i = 4 ∨ i = 5)) by omega) rfl))))))) (fun i hi => (W_j W181 (F_nl F173 (show ¬ (106 = 77 ∧ (i = 4 ∨ i = 5)) by omega) (F_nl F149 (show ¬ (106 = 77 ∧ (i = 4 ∨ i = 5 ∨ 7 ≤ i ∧ i ≤ 10)) by omega) (F_nl F129 (show ¬ (106 = 77 ∧ 7 ≤ i ∧ i ≤ 10) by omega) (W_j W112 (F_nl F104 (show ¬ (106 = 77 ∧ (i = 4 ∨ i = 5)) by omega) rfl))))))) (fun z => by exfalso; omega) (fun z => by exfalso; omega) (fun _ => winl (by omega) (by omega) z_362)
  · refine to_c (pc := 19) rw_213_19 (x := (0 : Int32)) rfl rfl ?_
    refine s_r1 (pc := 20) rw_213_20 (A := 0) rfl (by decide) ?_
    have k_363 : (0 : Int32).toInt = 0 := rfl
    have t_364 : (M113.2.1 102 (e.toInt).toNat).toInt = r103.toInt := congrArg Int32.toInt (W_e W112)
    have t_365 : (M113.2.1 103 (e.toInt).toNat).toInt = (M.2.1 103 (e.toInt).toNat).toInt := congrArg Int32.toInt (W_n W112 (by omega) (F_n F104 (show ¬ (103 = 77 ∧ (((e.toInt).toNat) = 4 ∨ ((e.toInt).toNat) = 5)) by omega) rfl))
    have t_366 : (M113.2.1 104 (e.toInt).toNat).toInt = (M.2.1 104 (e.toInt).toNat).toInt := congrArg Int32.toInt (W_n W112 (by omega) (F_n F104 (show ¬ (104 = 77 ∧ (((e.toInt).toNat) = 4 ∨ ((e.toInt).toNat) = 5)) by omega) rfl))
    have c_367 : M113.2.1 77 4 = (M110.2.1 77 4) := (W_n W112 (fun z => absurd z.1 (by decide)) rfl)
    have t_368 : (M113.2.1 77 4).toInt = (M110.2.1 77 4).toInt := congrArg Int32.toInt c_367
    have c_369 : M113.2.1 77 5 = (M110.2.1 77 5) := (W_n W112 (fun z => absurd z.1 (by decide)) rfl)
    have t_370 : (M113.2.1 77 5).toInt = (M110.2.1 77 5).toInt := congrArg Int32.toInt c_369
    have z_371 : x_wps t nn sg a (x_ww t nn sg 1 n9 op A9) = Sum.inl (1, a) := p_wpx (by omega)
    exact h (0 : Int32) M113 hG114 F115 (by decide) (by decide) (fun z => by exfalso; omega) (fun r i z z2 => (W_n W112 (by omega) (F_n F104 (show ¬ (r = 77 ∧ (i = 4 ∨ i = 5)) by omega) rfl))) (fun i hi => (W_n W112 (by omega) (F_n F104 (show ¬ (107 = 77 ∧ (i = 4 ∨ i = 5)) by omega) rfl))) (fun i hi => (W_j W112 (F_nl F104 (show ¬ (106 = 77 ∧ (i = 4 ∨ i = 5)) by omega) rfl))) (fun z => by exfalso; omega) (fun z => by exfalso; omega) (fun _ => winl (by omega) (by omega) z_371)
set_option maxRecDepth 4000 in
set_option maxHeartbeats 0 in
theorem E_214 {X : mm_X} {d : Nat} {M : mm_M} {Q : Option Value → mm_M → Prop} {e : Int32} {t : Nat → Int} {nn : Int} {a : Int} (hX : g_X X) (hd : 3 ≤ d) (hG : g_G M) (q1 : 0 ≤ e.toInt) (q2 : e.toInt ≤ 39) (q3 : RS M t nn) (q4 : (M.2.1 77 10).toInt = a) (q5 : 0 ≤ nn) (q6 : nn ≤ 500) (q7 : TR M t nn) (q8 : W9 M) (h : ∀ (r : Int32) (M1 : mm_M), g_G M1 → FR md_ps M M1 → (0 ≤ r.toInt) → (r.toInt ≤ 1) → ((r.toInt = 1 → RS M1 t nn)) → (∀ r i : Nat, (102 ≤ r ∧ r ≤ 104) → ¬ i = (e.toInt).toNat → M1.2.1 r i = M.2.1 r i) → (∀ i : Nat, ¬ i = (e.toInt).toNat → M1.2.1 107 i = M.2.1 107 i) → (∀ i : Nat, ¬ i = (e.toInt).toNat → M1.2.2.1 106 i = M.2.2.1 106 i) → ((r.toInt = 1 → (M1.2.1 102 (e.toInt).toNat).toInt = x_kp t nn a ∧ (M1.2.1 103 (e.toInt).toNat).toInt = x_kp t nn (x_ns t nn a))) → ((r.toInt = 1 → ∀ k : Int → x_WR, x_wjn t nn a k = k (M1.2.1 77 10).toInt)) → ((r.toInt = 0 → ∀ k : Int → x_WR, x_wjn t nn a k = Sum.inl ((M1.2.1 77 4).toInt, (M1.2.1 77 5).toInt))) → Q (some (.int r)) M1) : mm_T X d 213 0 [.ref 77, .int e] [] M Q := by
  have F0 : FR md_ps M M := FR.rf
  have b_1 := g_b hG (a := 77) (i := 10) (lo := 0) (hi := 500) rfl rfl
  have b_2 := g_b hG (a := 77) (i := 6) (lo := 0) (hi := 500) rfl rfl
  have b_3 := g_b hG (a := 77) (i := 7) (lo := 0) (hi := 500) rfl rfl
  have z_4 := RS_b q3 (a := a) (by omega)
  have z_5 := x_pk_b (t := t) (nn := nn) (a := a)
  have z_6 := x_pk_b (t := t) (nn := nn) (a := (x_ns t nn a))
  refine to_an (pc := 0) rw_214_0 rfl ?_
  refine s_gR (pc := 1) rw_214_1 hG rfl (v := 102) rfl ?_
  refine to_in (pc := 4) rw_214_4 rfl ?_
  refine to_an (pc := 5) rw_214_5 rfl ?_
  refine s_v (pc := 6) rw_214_6 (dp0 hd (by decide)) (ls0 := [.ref 77, .null, .null]) rfl (Nat.le_of_ble_eq_true rfl) (Nat.le_of_ble_eq_true rfl) rfl (to_rc rfl rfl rfl (g_o hG rfl)) rfl ?_
  refine E_211 hX (dp1 hd (by decide)) hG q3 (by omega) (t := t) (nn := nn) (a := a) (fun r7 M14 hG9 F8 p_10 p_11 p_12 p_13 => ?_)
  have F15 := FR.c F0 F8 tg_187
  refine s_ias (pc := 9) rw_214_9 hG9 rfl (n := 40) rfl (A := e.toInt) rfl (by omega) (by omega) (fun M17 W16 => ?_)
  have hG18 := g_w hG9 W16 (A := r7.toInt) rfl (lo := -1) (hi := 99) rfl rfl (by omega) (by decide)
  have F19 := FR.w F15 W16 (show 102 = 77 ∧ ((e.toInt).toNat = 4 ∨ (e.toInt).toNat = 5 ∨ 7 ≤ (e.toInt).toNat ∧ (e.toInt).toNat ≤ 10) ∨ 102 ≤ 102 ∧ 102 ≤ 104 ∨ 102 = 106 ∨ 102 = 107 by omega)
  refine to_an (pc := 10) rw_214_10 rfl ?_
  refine s_gR (pc := 11) rw_214_11 hG18 rfl (v := 102) rfl ?_
  refine to_in (pc := 14) rw_214_14 rfl ?_
  refine s_ialk (pc := 15) rw_214_15 hG18 rfl (n := 40) rfl rfl (A := e.toInt) rfl (by omega) (by omega) (v := r7) (W_e W16) ?_
  refine b_ige (pc := 16) rw_214_16 (A := r7.toInt) rfl (fun h22 => ?_) (fun h22 => ?_)
  · refine to_an (pc := 21) rw_214_21 rfl ?_
    refine s_v (pc := 22) rw_214_22 (dp0 hd (by decide)) (ls0 := [.ref 77]) rfl (Nat.le_of_ble_eq_true rfl) (Nat.le_of_ble_eq_true rfl) rfl (to_rc rfl rfl rfl (g_o hG18 rfl)) rfl ?_
    have c_23 : M17.2.1 77 7 = (M.2.1 77 7) := (W_n W16 (fun z => absurd z.1 (by decide)) (F_n F8 (show ¬ (77 = 77 ∧ (7 = 4 ∨ 7 = 5)) by decide) rfl))
    have t_24 : (M17.2.1 77 7).toInt = (M.2.1 77 7).toInt := congrArg Int32.toInt c_23
    have c_25 : M17.2.1 77 6 = (M.2.1 77 6) := (W_n W16 (fun z => absurd z.1 (by decide)) (F_n F8 (show ¬ (77 = 77 ∧ (6 = 4 ∨ 6 = 5)) by decide) rfl))
    have t_26 : (M17.2.1 77 6).toInt = (M.2.1 77 6).toInt := congrArg Int32.toInt c_25
    have c_27 : M17.2.1 77 10 = (M.2.1 77 10) := (W_n W16 (fun z => absurd z.1 (by decide)) (F_n F8 (show ¬ (77 = 77 ∧ (10 = 4 ∨ 10 = 5)) by decide) rfl))
    have t_28 : (M17.2.1 77 10).toInt = (M.2.1 77 10).toInt := congrArg Int32.toInt c_27
    have j_29 := (RS_f (fun a i z => W_n W16 (tg_189 a i _ z) rfl) (RS_f (tg_40 F8) q3))
    have z_30 := RS_b j_29 (a := a) (by omega)
    have j_31 := (TR_f (fun a i z => W_n W16 (tg_190 a i _ z) rfl) (TR_f (tg_41 F8) q7))
    have j_32 := (W9_f (fun a i z => W_n W16 (tg_191 a i _ z) rfl) (W9_f (tg_43 F8) q8))
    refine E_156 hX (dp1 hd (by decide)) hG18 (by omega) (by omega) (by omega) (by omega) j_31 j_32  (fun M39 hG34 F33 p_35 p_36 p_37 p_38 => ?_)
    have F40 := FR.c F19 F33 tg_188
    have b_41 := g_b hG34 (a := 77) (i := 7) (lo := 0) (hi := 500) rfl rfl
    have c_42 : M39.2.1 77 6 = (M.2.1 77 6) := (F_n F33 (show ¬ (77 = 77 ∧ 7 ≤ 6 ∧ 6 ≤ 10) by decide) c_25)
    have t_43 : (M39.2.1 77 6).toInt = (M.2.1 77 6).toInt := congrArg Int32.toInt c_42
    have b_44 := g_b hG34 (a := 77) (i := 8) (lo := 0) (hi := 5) rfl rfl
    have b_45 := g_b hG34 (a := 77) (i := 10) (lo := 0) (hi := 500) rfl rfl
    have z_46 := RS_s p_38.2 (a := a) (by omega)
    refine to_an (pc := 25) rw_214_25 rfl ?_
    refine s_gR (pc := 26) rw_214_26 hG34 rfl (v := 103) rfl ?_
    refine to_in (pc := 29) rw_214_29 rfl ?_
    refine to_an (pc := 30) rw_214_30 rfl ?_
    refine s_v (pc := 31) rw_214_31 (dp0 hd (by decide)) (ls0 := [.ref 77, .null, .null]) rfl (Nat.le_of_ble_eq_true rfl) (Nat.le_of_ble_eq_true rfl) rfl (to_rc rfl rfl rfl (g_o hG34 rfl)) rfl ?_
    refine E_211 hX (dp1 hd (by decide)) hG34 p_38.1 (by omega) (t := t) (nn := nn) (a := (x_ns t nn a)) (fun r47 M54 hG49 F48 p_50 p_51 p_52 p_53 => ?_)
    have F55 := FR.c F40 F48 tg_187
    refine s_ias (pc := 34) rw_214_34 hG49 rfl (n := 40) rfl (A := e.toInt) rfl (by omega) (by omega) (fun M57 W56 => ?_)
    have hG58 := g_w hG49 W56 (A := r47.toInt) rfl (lo := -1) (hi := 5) rfl rfl (by omega) (by decide)
    have F59 := FR.w F55 W56 (show 103 = 77 ∧ ((e.toInt).toNat = 4 ∨ (e.toInt).toNat = 5 ∨ 7 ≤ (e.toInt).toNat ∧ (e.toInt).toNat ≤ 10) ∨ 102 ≤ 103 ∧ 103 ≤ 104 ∨ 103 = 106 ∨ 103 = 107 by omega)
    refine to_an (pc := 35) rw_214_35 rfl ?_
    refine s_gR (pc := 36) rw_214_36 hG58 rfl (v := 103) rfl ?_
    refine to_in (pc := 39) rw_214_39 rfl ?_
    refine s_ialk (pc := 40) rw_214_40 hG58 rfl (n := 40) rfl rfl (A := e.toInt) rfl (by omega) (by omega) (v := r47) (W_e W56) ?_
    refine b_ige (pc := 41) rw_214_41 (A := r47.toInt) rfl (fun h62 => ?_) (fun h62 => ?_)
    · refine to_an (pc := 46) rw_214_46 rfl ?_
      refine s_gR (pc := 47) rw_214_47 hG58 rfl (v := 103) rfl ?_
      refine to_in (pc := 50) rw_214_50 rfl ?_
      refine s_ialk (pc := 51) rw_214_51 hG58 rfl (n := 40) rfl rfl (A := e.toInt) rfl (by omega) (by omega) (v := r47) (W_e W56) ?_
      refine to_an (pc := 52) rw_214_52 rfl ?_
      refine s_gR (pc := 53) rw_214_53 hG58 rfl (v := 102) rfl ?_
      refine to_in (pc := 56) rw_214_56 rfl ?_
      refine s_ialk (pc := 57) rw_214_57 hG58 rfl (n := 40) rfl rfl (A := e.toInt) rfl (by omega) (by omega) (v := r7) (W_n W56 (by omega) (F_n F48 (show ¬ (102 = 77 ∧ ((e.toInt).toNat = 4 ∨ (e.toInt).toNat = 5)) by omega) (F_n F33 (show ¬ (102 = 77 ∧ 7 ≤ (e.toInt).toNat ∧ (e.toInt).toNat ≤ 10) by omega) (W_e W16)))) ?_
      refine b_cne (pc := 58) rw_214_58 (A := r47.toInt) (B := r7.toInt) rfl rfl (fun h67 => ?_) (fun h67 => ?_)
      · refine to_an (pc := 67) rw_214_67 rfl ?_
        refine s_v (pc := 68) rw_214_68 (dp0 hd (by decide)) (ls0 := [.ref 77]) rfl (Nat.le_of_ble_eq_true rfl) (Nat.le_of_ble_eq_true rfl) rfl (to_rc rfl rfl rfl (g_o hG58 rfl)) rfl ?_
        have c_68 : M57.2.1 77 7 = (M39.2.1 77 7) := (W_n W56 (fun z => absurd z.1 (by decide)) (F_n F48 (show ¬ (77 = 77 ∧ (7 = 4 ∨ 7 = 5)) by decide) rfl))
        have t_69 : (M57.2.1 77 7).toInt = (M39.2.1 77 7).toInt := congrArg Int32.toInt c_68
        have c_70 : M57.2.1 77 6 = (M.2.1 77 6) := (W_n W56 (fun z => absurd z.1 (by decide)) (F_n F48 (show ¬ (77 = 77 ∧ (6 = 4 ∨ 6 = 5)) by decide) c_42))
        have t_71 : (M57.2.1 77 6).toInt = (M.2.1 77 6).toInt := congrArg Int32.toInt c_70
        have c_72 : M57.2.1 77 10 = (M39.2.1 77 10) := (W_n W56 (fun z => absurd z.1 (by decide)) (F_n F48 (show ¬ (77 = 77 ∧ (10 = 4 ∨ 10 = 5)) by decide) rfl))
        have t_73 : (M57.2.1 77 10).toInt = (M39.2.1 77 10).toInt := congrArg Int32.toInt c_72
        have j_74 := (RS_f (fun a i z => W_n W56 (tg_192 a i _ z) rfl) (RS_f (tg_40 F48) p_38.1))
        have z_75 := RS_b j_74 (a := (x_ns t nn a)) (by omega)
        have j_76 := (TR_f (fun a i z => W_n W56 (tg_193 a i _ z) rfl) (TR_f (tg_41 F48) (TR_f (tg_42 F33) j_31)))
        have j_77 := (W9_f (fun a i z => W_n W56 (tg_194 a i _ z) rfl) (W9_f (tg_43 F48) (W9_f (tg_44 F33) j_32)))
        refine E_156 hX (dp1 hd (by decide)) hG58 (by omega) (by omega) (by omega) (by omega) j_76 j_77  (fun M84 hG79 F78 p_80 p_81 p_82 p_83 => ?_)
        have F85 := FR.c F59 F78 tg_188
        have b_86 := g_b hG79 (a := 77) (i := 7) (lo := 0) (hi := 500) rfl rfl
        have c_87 : M84.2.1 77 6 = (M.2.1 77 6) := (F_n F78 (show ¬ (77 = 77 ∧ 7 ≤ 6 ∧ 6 ≤ 10) by decide) c_70)
        have t_88 : (M84.2.1 77 6).toInt = (M.2.1 77 6).toInt := congrArg Int32.toInt c_87
        have b_89 := g_b hG79 (a := 77) (i := 8) (lo := 0) (hi := 5) rfl rfl
        have b_90 := g_b hG79 (a := 77) (i := 10) (lo := 0) (hi := 500) rfl rfl
        have z_91 := RS_s p_83.2 (a := (x_ns t nn a)) (by omega)
        refine to_an (pc := 71) rw_214_71 rfl ?_
        refine to_c (pc := 72) rw_214_72 (x := (59 : Int32)) rfl rfl ?_
        refine s_v (pc := 74) rw_214_74 (dp0 hd (by decide)) (ls0 := [.ref 77, .int (59 : Int32)]) rfl (Nat.le_of_ble_eq_true rfl) (Nat.le_of_ble_eq_true rfl) rfl (to_rc rfl rfl rfl (g_o hG79 rfl)) rfl ?_
        have k_92 : (59 : Int32).toInt = 59 := rfl
        have j_93 := (TR_f (tg_42 F78) j_76)
        have j_94 := (W9_f (tg_44 F78) j_77)
        refine E_160w hX (dp1 hd (by decide)) hG79 p_83.1 (by omega) (by omega) (by omega) j_93 j_94 (by omega) (c := (59 : Int32)) (t := t) (nn := nn) (a := (x_ns t nn (x_ns t nn a))) (fun r95 M104 hG97 F96 p_98 p_99 p_100 p_101 p_102 p_103 => ?_)
        have F105 := FR.c F85 F96 tg_186
        have b_106 := g_b hG97 (a := 77) (i := 10) (lo := 0) (hi := 500) rfl rfl
        rcases (show r95.toInt = 0 ∨ r95.toInt = 1 by omega) with h107 | h107
        · skip
          have p_108 := p_102 (by omega)
          have p_109 := p_103 (by omega)
          clear p_101 p_102 p_103
          refine s_r1 (pc := 77) rw_214_77 (A := r95.toInt) rfl (by omega) ?_
          have t_110 : (M17.2.1 102 (e.toInt).toNat).toInt = r7.toInt := congrArg Int32.toInt (W_e W16)
          have t_111 : (M104.2.1 102 (e.toInt).toNat).toInt = (M17.2.1 102 (e.toInt).toNat).toInt := congrArg Int32.toInt (F_n F96 (show ¬ (102 = 77 ∧ (((e.toInt).toNat) = 4 ∨ ((e.toInt).toNat) = 5 ∨ 7 ≤ ((e.toInt).toNat) ∧ ((e.toInt).toNat) ≤ 10)) by omega) (F_n F78 (show ¬ (102 = 77 ∧ 7 ≤ ((e.toInt).toNat) ∧ ((e.toInt).toNat) ≤ 10) by omega) (W_n W56 (by omega) (F_n F48 (show ¬ (102 = 77 ∧ (((e.toInt).toNat) = 4 ∨ ((e.toInt).toNat) = 5)) by omega) (F_n F33 (show ¬ (102 = 77 ∧ 7 ≤ ((e.toInt).toNat) ∧ ((e.toInt).toNat) ≤ 10) by omega) rfl)))))
          have t_112 : (M57.2.1 103 (e.toInt).toNat).toInt = r47.toInt := congrArg Int32.toInt (W_e W56)
          have t_113 : (M104.2.1 103 (e.toInt).toNat).toInt = (M57.2.1 103 (e.toInt).toNat).toInt := congrArg Int32.toInt (F_n F96 (show ¬ (103 = 77 ∧ (((e.toInt).toNat) = 4 ∨ ((e.toInt).toNat) = 5 ∨ 7 ≤ ((e.toInt).toNat) ∧ ((e.toInt).toNat) ≤ 10)) by omega) (F_n F78 (show ¬ (103 = 77 ∧ 7 ≤ ((e.toInt).toNat) ∧ ((e.toInt).toNat) ≤ 10) by omega) rfl))
          exact h r95 M104 hG97 F105 (by omega) (by omega) (fun z => by exfalso; omega) (fun r i z z2 => (F_n F96 (show ¬ (r = 77 ∧ (i = 4 ∨ i = 5 ∨ 7 ≤ i ∧ i ≤ 10)) by omega) (F_n F78 (show ¬ (r = 77 ∧ 7 ≤ i ∧ i ≤ 10) by omega) (W_n W56 (by omega) (F_n F48 (show ¬ (r = 77 ∧ (i = 4 ∨ i = 5)) by omega) (F_n F33 (show ¬ (r = 77 ∧ 7 ≤ i ∧ i ≤ 10) by omega) (W_n W16 (by omega) (F_n F8 (show ¬ (r = 77 ∧ (i = 4 ∨ i = 5)) by omega) rfl)))))))) (fun i hi => (F_n F96 (show ¬ (107 = 77 ∧ (i = 4 ∨ i = 5 ∨ 7 ≤ i ∧ i ≤ 10)) by omega) (F_n F78 (show ¬ (107 = 77 ∧ 7 ≤ i ∧ i ≤ 10) by omega) (W_n W56 (by omega) (F_n F48 (show ¬ (107 = 77 ∧ (i = 4 ∨ i = 5)) by omega) (F_n F33 (show ¬ (107 = 77 ∧ 7 ≤ i ∧ i ≤ 10) by omega) (W_n W16 (by omega) (F_n F8 (show ¬ (107 = 77 ∧ (i = 4 ∨ i = 5)) by omega) rfl)))))))) (fun i hi => (F_nl F96 (show ¬ (106 = 77 ∧ (i = 4 ∨ i = 5 ∨ 7 ≤ i ∧ i ≤ 10)) by omega) (F_nl F78 (show ¬ (106 = 77 ∧ 7 ≤ i ∧ i ≤ 10) by omega) (W_j W56 (F_nl F48 (show ¬ (106 = 77 ∧ (i = 4 ∨ i = 5)) by omega) (F_nl F33 (show ¬ (106 = 77 ∧ 7 ≤ i ∧ i ≤ 10) by omega) (W_j W16 (F_nl F8 (show ¬ (106 = 77 ∧ (i = 4 ∨ i = 5)) by omega) rfl)))))))) (fun z => by exfalso; omega) (fun z => by exfalso; omega) (fun _ k9 => winl (by omega) (by omega) (wj_4 (by omega) (by omega) (by omega) (by omega)))
        · skip
          have p_114 := p_101 (by omega)
          clear p_101 p_102 p_103
          refine s_r1 (pc := 77) rw_214_77 (A := r95.toInt) rfl (by omega) ?_
          have t_115 : (M17.2.1 102 (e.toInt).toNat).toInt = r7.toInt := congrArg Int32.toInt (W_e W16)
          have t_116 : (M104.2.1 102 (e.toInt).toNat).toInt = (M17.2.1 102 (e.toInt).toNat).toInt := congrArg Int32.toInt (F_n F96 (show ¬ (102 = 77 ∧ (((e.toInt).toNat) = 4 ∨ ((e.toInt).toNat) = 5 ∨ 7 ≤ ((e.toInt).toNat) ∧ ((e.toInt).toNat) ≤ 10)) by omega) (F_n F78 (show ¬ (102 = 77 ∧ 7 ≤ ((e.toInt).toNat) ∧ ((e.toInt).toNat) ≤ 10) by omega) (W_n W56 (by omega) (F_n F48 (show ¬ (102 = 77 ∧ (((e.toInt).toNat) = 4 ∨ ((e.toInt).toNat) = 5)) by omega) (F_n F33 (show ¬ (102 = 77 ∧ 7 ≤ ((e.toInt).toNat) ∧ ((e.toInt).toNat) ≤ 10) by omega) rfl)))))
          have t_117 : (M57.2.1 103 (e.toInt).toNat).toInt = r47.toInt := congrArg Int32.toInt (W_e W56)
          have t_118 : (M104.2.1 103 (e.toInt).toNat).toInt = (M57.2.1 103 (e.toInt).toNat).toInt := congrArg Int32.toInt (F_n F96 (show ¬ (103 = 77 ∧ (((e.toInt).toNat) = 4 ∨ ((e.toInt).toNat) = 5 ∨ 7 ≤ ((e.toInt).toNat) ∧ ((e.toInt).toNat) ≤ 10)) by omega) (F_n F78 (show ¬ (103 = 77 ∧ 7 ≤ ((e.toInt).toNat) ∧ ((e.toInt).toNat) ≤ 10) by omega) rfl))
          exact h r95 M104 hG97 F105 (by omega) (by omega) (fun _ => p_100) (fun r i z z2 => (F_n F96 (show ¬ (r = 77 ∧ (i = 4 ∨ i = 5 ∨ 7 ≤ i ∧ i ≤ 10)) by omega) (F_n F78 (show ¬ (r = 77 ∧ 7 ≤ i ∧ i ≤ 10) by omega) (W_n W56 (by omega) (F_n F48 (show ¬ (r = 77 ∧ (i = 4 ∨ i = 5)) by omega) (F_n F33 (show ¬ (r = 77 ∧ 7 ≤ i ∧ i ≤ 10) by omega) (W_n W16 (by omega) (F_n F8 (show ¬ (r = 77 ∧ (i = 4 ∨ i = 5)) by omega) rfl)))))))) (fun i hi => (F_n F96 (show ¬ (107 = 77 ∧ (i = 4 ∨ i = 5 ∨ 7 ≤ i ∧ i ≤ 10)) by omega) (F_n F78 (show ¬ (107 = 77 ∧ 7 ≤ i ∧ i ≤ 10) by omega) (W_n W56 (by omega) (F_n F48 (show ¬ (107 = 77 ∧ (i = 4 ∨ i = 5)) by omega) (F_n F33 (show ¬ (107 = 77 ∧ 7 ≤ i ∧ i ≤ 10) by omega) (W_n W16 (by omega) (F_n F8 (show ¬ (107 = 77 ∧ (i = 4 ∨ i = 5)) by omega) rfl)))))))) (fun i hi => (F_nl F96 (show ¬ (106 = 77 ∧ (i = 4 ∨ i = 5 ∨ 7 ≤ i ∧ i ≤ 10)) by omega) (F_nl F78 (show ¬ (106 = 77 ∧ 7 ≤ i ∧ i ≤ 10) by omega) (W_j W56 (F_nl F48 (show ¬ (106 = 77 ∧ (i = 4 ∨ i = 5)) by omega) (F_nl F33 (show ¬ (106 = 77 ∧ 7 ≤ i ∧ i ≤ 10) by omega) (W_j W16 (F_nl F8 (show ¬ (106 = 77 ∧ (i = 4 ∨ i = 5)) by omega) rfl)))))))) (fun _ => ⟨(congrArg Int32.toInt ((F_n F96 (show ¬ (102 = 77 ∧ ((e.toInt).toNat = 4 ∨ (e.toInt).toNat = 5 ∨ 7 ≤ (e.toInt).toNat ∧ (e.toInt).toNat ≤ 10)) by omega) (F_n F78 (show ¬ (102 = 77 ∧ 7 ≤ (e.toInt).toNat ∧ (e.toInt).toNat ≤ 10) by omega) (W_n W56 (by omega) (F_n F48 (show ¬ (102 = 77 ∧ ((e.toInt).toNat = 4 ∨ (e.toInt).toNat = 5)) by omega) (F_n F33 (show ¬ (102 = 77 ∧ 7 ≤ (e.toInt).toNat ∧ (e.toInt).toNat ≤ 10) by omega) (W_e W16)))))))).trans (show r7.toInt = x_kp t nn a by omega), (congrArg Int32.toInt ((F_n F96 (show ¬ (103 = 77 ∧ ((e.toInt).toNat = 4 ∨ (e.toInt).toNat = 5 ∨ 7 ≤ (e.toInt).toNat ∧ (e.toInt).toNat ≤ 10)) by omega) (F_n F78 (show ¬ (103 = 77 ∧ 7 ≤ (e.toInt).toNat ∧ (e.toInt).toNat ≤ 10) by omega) (W_e W56))))).trans (show r47.toInt = x_kp t nn (x_ns t nn a) by omega)⟩) (fun _ k9 => by rw [show (M104.2.1 77 10).toInt = (x_ns t nn (x_ns t nn (x_ns t nn a))) by omega]; exact wj_y (by omega) (by omega) (by omega) (by omega)) (fun z => by exfalso; omega)
      · refine to_an (pc := 61) rw_214_61 rfl ?_
        refine to_c (pc := 62) rw_214_62 (x := (3 : Int32)) rfl rfl ?_
        refine s_v (pc := 63) rw_214_63 (dp0 hd (by decide)) (ls0 := [.ref 77, .int (3 : Int32)]) rfl (Nat.le_of_ble_eq_true rfl) (Nat.le_of_ble_eq_true rfl) rfl (to_rc rfl rfl rfl (g_o hG58 rfl)) rfl ?_
        refine to_an (pc := 0) rw_152_0 rfl ?_
        refine to_in (pc := 1) rw_152_1 rfl ?_
        refine s_pI (pc := 2) rw_152_2 hG58 rfl (fun M120 W119 => ?_)
        have hG121 := g_wf hG58 W119 rfl rfl (by decide)
        have F122 := FR.w F59 W119 (show 77 = 77 ∧ (4 = 4 ∨ 4 = 5 ∨ 7 ≤ 4 ∧ 4 ≤ 10) ∨ 102 ≤ 77 ∧ 77 ≤ 104 ∨ 77 = 106 ∨ 77 = 107 by decide)
        refine to_an (pc := 5) rw_152_5 rfl ?_
        refine to_an (pc := 6) rw_152_6 rfl ?_
        have c_123 : M120.2.1 77 10 = (M39.2.1 77 10) := (W_n W119 (by decide) (W_n W56 (fun z => absurd z.1 (by decide)) (F_n F48 (show ¬ (77 = 77 ∧ (10 = 4 ∨ 10 = 5)) by decide) rfl)))
        refine tt_gI (pc := 7) rw_152_7 (g_o hG121 rfl) (v := (M39.2.1 77 10)) c_123 ?_
        refine s_pI (pc := 10) rw_152_10 hG121 rfl (fun M125 W124 => ?_)
        have hG126 := g_wf hG121 W124 rfl rfl (by decide)
        have F127 := FR.w F122 W124 (show 77 = 77 ∧ (5 = 4 ∨ 5 = 5 ∨ 7 ≤ 5 ∧ 5 ≤ 10) ∨ 102 ≤ 77 ∧ 77 ≤ 104 ∨ 77 = 106 ∨ 77 = 107 by decide)
        refine to_c (pc := 13) rw_152_13 (x := (0 : Int32)) rfl rfl ?_
        refine s_r1 (pc := 14) rw_152_14 (A := 0) rfl (by decide) ?_
        refine s_r1 (pc := 66) rw_214_66 (A := 0) rfl (by decide) ?_
        have k_128 : (0 : Int32).toInt = 0 := rfl
        have t_129 : (M17.2.1 102 (e.toInt).toNat).toInt = r7.toInt := congrArg Int32.toInt (W_e W16)
        have t_130 : (M125.2.1 102 (e.toInt).toNat).toInt = (M17.2.1 102 (e.toInt).toNat).toInt := congrArg Int32.toInt (W_n W124 (by omega) (W_n W119 (by omega) (W_n W56 (by omega) (F_n F48 (show ¬ (102 = 77 ∧ (((e.toInt).toNat) = 4 ∨ ((e.toInt).toNat) = 5)) by omega) (F_n F33 (show ¬ (102 = 77 ∧ 7 ≤ ((e.toInt).toNat) ∧ ((e.toInt).toNat) ≤ 10) by omega) rfl)))))
        have t_131 : (M57.2.1 103 (e.toInt).toNat).toInt = r47.toInt := congrArg Int32.toInt (W_e W56)
        have t_132 : (M125.2.1 103 (e.toInt).toNat).toInt = (M57.2.1 103 (e.toInt).toNat).toInt := congrArg Int32.toInt (W_n W124 (by omega) (W_n W119 (by omega) rfl))
        have c_133 : M125.2.1 77 4 = (3 : Int32) := (W_n W124 (by decide) (W_e W119))
        have k_134 : (3 : Int32).toInt = 3 := rfl
        have t_135 : (M125.2.1 77 4).toInt = (3 : Int32).toInt := congrArg Int32.toInt c_133
        have c_136 : M125.2.1 77 5 = (M39.2.1 77 10) := (W_e W124)
        have t_137 : (M125.2.1 77 5).toInt = (M39.2.1 77 10).toInt := congrArg Int32.toInt c_136
        exact h (0 : Int32) M125 hG126 F127 (by decide) (by decide) (fun z => by exfalso; omega) (fun r i z z2 => (W_n W124 (by omega) (W_n W119 (by omega) (W_n W56 (by omega) (F_n F48 (show ¬ (r = 77 ∧ (i = 4 ∨ i = 5)) by omega) (F_n F33 (show ¬ (r = 77 ∧ 7 ≤ i ∧ i ≤ 10) by omega) (W_n W16 (by omega) (F_n F8 (show ¬ (r = 77 ∧ (i = 4 ∨ i = 5)) by omega) rfl)))))))) (fun i hi => (W_n W124 (by omega) (W_n W119 (by omega) (W_n W56 (by omega) (F_n F48 (show ¬ (107 = 77 ∧ (i = 4 ∨ i = 5)) by omega) (F_n F33 (show ¬ (107 = 77 ∧ 7 ≤ i ∧ i ≤ 10) by omega) (W_n W16 (by omega) (F_n F8 (show ¬ (107 = 77 ∧ (i = 4 ∨ i = 5)) by omega) rfl)))))))) (fun i hi => (W_j W124 (W_j W119 (W_j W56 (F_nl F48 (show ¬ (106 = 77 ∧ (i = 4 ∨ i = 5)) by omega) (F_nl F33 (show ¬ (106 = 77 ∧ 7 ≤ i ∧ i ≤ 10) by omega) (W_j W16 (F_nl F8 (show ¬ (106 = 77 ∧ (i = 4 ∨ i = 5)) by omega) rfl)))))))) (fun z => by exfalso; omega) (fun z => by exfalso; omega) (fun _ k9 => winl (by omega) (by omega) (wj_3 (by omega) (by omega) (by omega)))
    · refine to_c (pc := 44) rw_214_44 (x := (0 : Int32)) rfl rfl ?_
      refine s_r1 (pc := 45) rw_214_45 (A := 0) rfl (by decide) ?_
      have k_138 : (0 : Int32).toInt = 0 := rfl
      have t_139 : (M17.2.1 102 (e.toInt).toNat).toInt = r7.toInt := congrArg Int32.toInt (W_e W16)
      have t_140 : (M57.2.1 102 (e.toInt).toNat).toInt = (M17.2.1 102 (e.toInt).toNat).toInt := congrArg Int32.toInt (W_n W56 (by omega) (F_n F48 (show ¬ (102 = 77 ∧ (((e.toInt).toNat) = 4 ∨ ((e.toInt).toNat) = 5)) by omega) (F_n F33 (show ¬ (102 = 77 ∧ 7 ≤ ((e.toInt).toNat) ∧ ((e.toInt).toNat) ≤ 10) by omega) rfl)))
      have t_141 : (M57.2.1 103 (e.toInt).toNat).toInt = r47.toInt := congrArg Int32.toInt (W_e W56)
      have c_142 : M57.2.1 77 4 = (M54.2.1 77 4) := (W_n W56 (fun z => absurd z.1 (by decide)) rfl)
      have t_143 : (M57.2.1 77 4).toInt = (M54.2.1 77 4).toInt := congrArg Int32.toInt c_142
      have c_144 : M57.2.1 77 5 = (M54.2.1 77 5) := (W_n W56 (fun z => absurd z.1 (by decide)) rfl)
      have t_145 : (M57.2.1 77 5).toInt = (M54.2.1 77 5).toInt := congrArg Int32.toInt c_144
      exact h (0 : Int32) M57 hG58 F59 (by decide) (by decide) (fun z => by exfalso; omega) (fun r i z z2 => (W_n W56 (by omega) (F_n F48 (show ¬ (r = 77 ∧ (i = 4 ∨ i = 5)) by omega) (F_n F33 (show ¬ (r = 77 ∧ 7 ≤ i ∧ i ≤ 10) by omega) (W_n W16 (by omega) (F_n F8 (show ¬ (r = 77 ∧ (i = 4 ∨ i = 5)) by omega) rfl)))))) (fun i hi => (W_n W56 (by omega) (F_n F48 (show ¬ (107 = 77 ∧ (i = 4 ∨ i = 5)) by omega) (F_n F33 (show ¬ (107 = 77 ∧ 7 ≤ i ∧ i ≤ 10) by omega) (W_n W16 (by omega) (F_n F8 (show ¬ (107 = 77 ∧ (i = 4 ∨ i = 5)) by omega) rfl)))))) (fun i hi => (W_j W56 (F_nl F48 (show ¬ (106 = 77 ∧ (i = 4 ∨ i = 5)) by omega) (F_nl F33 (show ¬ (106 = 77 ∧ 7 ≤ i ∧ i ≤ 10) by omega) (W_j W16 (F_nl F8 (show ¬ (106 = 77 ∧ (i = 4 ∨ i = 5)) by omega) rfl)))))) (fun z => by exfalso; omega) (fun z => by exfalso; omega) (fun _ k9 => winl (by omega) (by omega) (wj_2 (by omega) (by omega)))
  · refine to_c (pc := 19) rw_214_19 (x := (0 : Int32)) rfl rfl ?_
    refine s_r1 (pc := 20) rw_214_20 (A := 0) rfl (by decide) ?_
    have k_146 : (0 : Int32).toInt = 0 := rfl
    have t_147 : (M17.2.1 102 (e.toInt).toNat).toInt = r7.toInt := congrArg Int32.toInt (W_e W16)
    have t_148 : (M17.2.1 103 (e.toInt).toNat).toInt = (M.2.1 103 (e.toInt).toNat).toInt := congrArg Int32.toInt (W_n W16 (by omega) (F_n F8 (show ¬ (103 = 77 ∧ (((e.toInt).toNat) = 4 ∨ ((e.toInt).toNat) = 5)) by omega) rfl))
    have c_149 : M17.2.1 77 4 = (M14.2.1 77 4) := (W_n W16 (fun z => absurd z.1 (by decide)) rfl)
    have t_150 : (M17.2.1 77 4).toInt = (M14.2.1 77 4).toInt := congrArg Int32.toInt c_149
    have c_151 : M17.2.1 77 5 = (M14.2.1 77 5) := (W_n W16 (fun z => absurd z.1 (by decide)) rfl)
    have t_152 : (M17.2.1 77 5).toInt = (M14.2.1 77 5).toInt := congrArg Int32.toInt c_151
    exact h (0 : Int32) M17 hG18 F19 (by decide) (by decide) (fun z => by exfalso; omega) (fun r i z z2 => (W_n W16 (by omega) (F_n F8 (show ¬ (r = 77 ∧ (i = 4 ∨ i = 5)) by omega) rfl))) (fun i hi => (W_n W16 (by omega) (F_n F8 (show ¬ (107 = 77 ∧ (i = 4 ∨ i = 5)) by omega) rfl))) (fun i hi => (W_j W16 (F_nl F8 (show ¬ (106 = 77 ∧ (i = 4 ∨ i = 5)) by omega) rfl))) (fun z => by exfalso; omega) (fun z => by exfalso; omega) (fun _ k9 => winl (by omega) (by omega) (wj_1 (by omega)))
