theorem tg_480 {M M1 : mm_M} (F : FR (fun a i : Nat => a = 77 ∧ (i = 4 ∨ i = 5 ∨ 7 ≤ i ∧ i ≤ 10) ∨ a = 77 ∧ (i = 44 ∨ i = 52) ∨ 101 ≤ a ∧ a ≤ 108) M M1) : ∀ a i : Nat, a = 78 → M1.2.1 a i = M.2.1 a i := fun a i z => F_n F (show ¬ (a = 77 ∧ (i = 4 ∨ i = 5 ∨ 7 ≤ i ∧ i ≤ 10) ∨ a = 77 ∧ (i = 44 ∨ i = 52) ∨ 101 ≤ a ∧ a ≤ 108) by omega) rfl
theorem tg_481 {M M1 : mm_M} (F : FR (fun a i : Nat => a = 77 ∧ (i = 4 ∨ i = 5 ∨ 7 ≤ i ∧ i ≤ 10) ∨ a = 77 ∧ (i = 44 ∨ i = 52) ∨ 101 ≤ a ∧ a ≤ 108) M M1) : ∀ a i : Nat, a = 79 → M1.2.1 a i = M.2.1 a i := fun a i z => F_n F (show ¬ (a = 77 ∧ (i = 4 ∨ i = 5 ∨ 7 ≤ i ∧ i ≤ 10) ∨ a = 77 ∧ (i = 44 ∨ i = 52) ∨ 101 ≤ a ∧ a ≤ 108) by omega) rfl
theorem tg_482 {M M1 : mm_M} (F : FR (fun a i : Nat => a = 77 ∧ (i = 4 ∨ i = 5 ∨ 7 ≤ i ∧ i ≤ 10) ∨ a = 77 ∧ (i = 44 ∨ i = 52) ∨ 101 ≤ a ∧ a ≤ 108) M M1) : ∀ a i : Nat, (a = 77 ∧ 11 ≤ i ∧ i ≤ 13 ∨ 80 ≤ a ∧ a ≤ 84 ∧ i < 8 ∨ 85 ≤ a ∧ a ≤ 86 ∧ i < 12) → M1.2.1 a i = M.2.1 a i := fun a i z => F_n F (show ¬ (a = 77 ∧ (i = 4 ∨ i = 5 ∨ 7 ≤ i ∧ i ≤ 10) ∨ a = 77 ∧ (i = 44 ∨ i = 52) ∨ 101 ≤ a ∧ a ≤ 108) by omega) rfl
theorem tg_483 : ∀ a i : Nat, (a = 77 ∧ 11 ≤ i ∧ i ≤ 13 ∨ 80 ≤ a ∧ a ≤ 84 ∧ i < 8 ∨ 85 ≤ a ∧ a ≤ 86 ∧ i < 12) → ¬ (a = 77 ∧ i = 52) := fun a i z => by omega
theorem D_215 {X : mm_X} {d : Nat} {M : mm_M} {Q : Option Value → mm_M → Prop} {t : Nat → Int} {nn : Int} {a : Int} {sg : x_S} {n9 : Int} {op : List Int} {A9 : x_A} (hX : g_X X) (hd : 4 ≤ d) (hG : g_G M) (q1 : (M.2.1 77 7).toInt ≤ (M.2.1 77 6).toInt) (q2 : AB M) (q3 : ST M) (q4 : RS M t nn) (q5 : (M.2.1 77 10).toInt = a) (q6 : 0 ≤ nn) (q7 : nn ≤ 500) (q8 : TR M t nn) (q9 : W9 M) (q10 : PLk M sg) (q11 : (M.2.1 77 44).toInt = n9) (q12 : 0 ≤ n9) (q13 : ¬ (x_kind t nn a = 0 ∧ (M.2.1 77 52).toInt = 0)) (q14 : WKr M A9 n9 op) (q15 : OPR (orow M) op) (q16 : (op.length : Int) = (M.2.1 77 52).toInt) (q17 : ∀ m ∈ op, 0 ≤ m ∧ m < n9) (h : ∀ (r : Int32) (M1 : mm_M), g_G M1 → FR md_ac M M1 → (0 ≤ r.toInt) → (r.toInt ≤ 1) → ((M1.2.1 77 7).toInt ≤ (M1.2.1 77 6).toInt) → ((M.2.1 77 7).toInt ≤ (M1.2.1 77 7).toInt) → (r.toInt = 1 → (M1.2.1 77 8).toInt = 0 ∨ (M.2.1 77 7).toInt < (M1.2.1 77 7).toInt) → (r.toInt = 1 → ¬ (M.2.1 77 8).toInt = 0) → (r.toInt = 1 → AB M1) → (r.toInt = 1 → ST M1) → ((r.toInt = 1 → RS M1 t nn)) → ((r.toInt = 1 → WS t nn sg (x_ww t nn sg 0 n9 op A9 a) M1)) → ((r.toInt = 0 → x_ww t nn sg 0 n9 op A9 a = Sum.inl ((M1.2.1 77 4).toInt, (M1.2.1 77 5).toInt))) → Q (some (.int r)) M1) : mm_T X d 214 0 [.ref 77, .null] [] M Q := by
  refine T_im (T_and (C_215 hX (by omega) hG q1 q2 q3  (Q := (fun v M1 => ∃ r : Int32, v = some (.int r) ∧ g_G M1 ∧ FR md_ac M M1 ∧ (0 ≤ r.toInt) ∧ (r.toInt ≤ 1) ∧ ((M1.2.1 77 7).toInt ≤ (M1.2.1 77 6).toInt) ∧ ((M.2.1 77 7).toInt ≤ (M1.2.1 77 7).toInt) ∧ (r.toInt = 1 → (M1.2.1 77 8).toInt = 0 ∨ (M.2.1 77 7).toInt < (M1.2.1 77 7).toInt) ∧ (r.toInt = 1 → ¬ (M.2.1 77 8).toInt = 0) ∧ (r.toInt = 1 → AB M1) ∧ (r.toInt = 1 → ST M1))) (fun r M1 a0 a1 a2 a3 a4 a5 a6 a7 a8 a9 => ⟨r, rfl, a0, a1, a2, a3, a4, a5, a6, a7, a8, a9⟩)) (E_215 hX (by omega) hG q4 q5 q6 q7 q8 q9 q10 q11 q12 q13 q14 q15 q16 q17 (t := t) (nn := nn) (a := a) (sg := sg) (n9 := n9) (op := op) (A9 := A9) (Q := (fun v M1 => ∃ r : Int32, v = some (.int r) ∧ (0 ≤ r.toInt) ∧ (r.toInt ≤ 1) ∧ ((r.toInt = 1 → RS M1 t nn)) ∧ ((r.toInt = 1 → WS t nn sg (x_ww t nn sg 0 n9 op A9 a) M1)) ∧ ((r.toInt = 0 → x_ww t nn sg 0 n9 op A9 a = Sum.inl ((M1.2.1 77 4).toInt, (M1.2.1 77 5).toInt))))) (fun r M1 _ _ b0 b1 b2 b3 b4 => ⟨r, rfl, b0, b1, b2, b3, b4⟩))) ?_
  intro v M1 hh
  obtain ⟨⟨r, hv, a0, a1, a2, a3, a4, a5, a6, a7, a8, a9⟩, ⟨r2, hv2, b0, b1, b2, b3, b4⟩⟩ := hh
  have e : r2 = r := by
    rw [hv] at hv2
    injection hv2 with z
    injection z with z
    exact z.symm
  subst e
  subst hv
  exact h _ M1 a0 a1 a2 a3 a4 a5 a6 a7 a8 a9 b2 b3 b4
set_option maxRecDepth 4000 in
set_option maxHeartbeats 0 in
theorem U_219_0 {X : mm_X} {d : Nat} {M : mm_M} {Q : Option Value → mm_M → Prop} {n : Int32} {t : Nat → Int} {nn : Int} {sg : x_S} (hX : g_X X) (hd : 5 ≤ d) (q1 : (M.2.1 77 7).toInt ≤ (M.2.1 77 6).toInt) (q2 : FA M) (q3 : WC M) (q4 : NJ M) (q5 : PS M) (q6 : KQ M) (q7 : 0 ≤ n.toInt ∧ n.toInt ≤ (M.2.1 77 1).toInt → n.toInt = nn) (q8 : TR M t nn) (q9 : W9 M) (q10 : PLk M sg) (h : ∀ (r : Int32) (M1 : mm_M), g_G M1 → FR md_wk M M1 → ((M1.2.1 77 7).toInt ≤ (M1.2.1 77 6).toInt) → FA M1 → WC M1 → NJ M1 → PS M1 → KQ M1 → (n.toInt < 0 ∨ (M.2.1 77 1).toInt < n.toInt → (M1.2.1 77 1).toInt = (M.2.1 77 1).toInt) → (0 ≤ n.toInt ∧ n.toInt ≤ (M.2.1 77 1).toInt → (M1.2.1 77 1).toInt = 0) → (n.toInt < 0 ∨ (M.2.1 77 1).toInt < n.toInt → r.toInt = -2) → (-2 ≤ r.toInt) → (r.toInt < 0 → (M1.2.1 77 42).toInt = (M.2.1 77 42).toInt ∧ (M1.2.1 77 43).toInt = (M.2.1 77 43).toInt) → ((0 ≤ n.toInt ∧ n.toInt ≤ (M.2.1 77 1).toInt → WAN (x_ww t nn sg 0 0 [] x_A0 (x_sk t nn 0)) r.toInt (M1.2.1 77 43).toInt (M1.2.1 77 42).toInt)) → Q (some (.int r)) M1) : ∀ nn9 : Nat, (∀ (N : mm_M) (u1 : Value), g_G N → FR md_wk M N → ((N.2.1 77 7).toInt ≤ (N.2.1 77 6).toInt) → (FA N) → (WC N) → (NJ N) → (PS N) → (KQ N) → (AB N) → (ST N) → ((N.2.1 77 1).toInt = 0) → (0 ≤ n.toInt) → (n.toInt ≤ (M.2.1 77 1).toInt) → (RS N t nn) → (TR N t nn) → (W9 N) → (PLk N sg) → (0 ≤ nn) → (nn ≤ 500) → ((N.2.1 77 42).toInt = (M.2.1 77 42).toInt) → ((N.2.1 77 43).toInt = (M.2.1 77 43).toInt) → (WS t nn sg (x_ww t nn sg 0 0 [] x_A0 (x_sk t nn 0)) N) → 6 * (500 - (N.2.1 77 7).toInt) + (N.2.1 77 8).toInt < (nn9 : Int) → mm_T X d 218 26 [.ref 77, u1] [] N Q) := by
  intro nn9
  induction nn9 with
  | zero =>
    intro N u1 hG F0 g1 g2 g3 g4 g5 g6 g7 g8 g9 g10 g11 g12 g13 g14 g15 g16 g17 g18 g19 g20 hm
    have b_1 := g_b hG (a := 77) (i := 7) (lo := 0) (hi := 500) rfl rfl
    have b_2 := g_b hG (a := 77) (i := 8) (lo := 0) (hi := 5) rfl rfl
    have b_3 := g_b hG (a := 77) (i := 6) (lo := 0) (hi := 500) rfl rfl
    have b_4 := g_b hG (a := 77) (i := 1) (lo := 0) (hi := 500) rfl rfl
    have b_5 := g_b hG (a := 77) (i := 43) (lo := 0) (hi := 3000) rfl rfl
    exfalso; omega
  | succ nn9 ih =>
    intro N u1 hG F0 g1 g2 g3 g4 g5 g6 g7 g8 g9 g10 g11 g12 g13 g14 g15 g16 g17 g18 g19 g20 hm
    have b_6 := g_b hG (a := 77) (i := 7) (lo := 0) (hi := 500) rfl rfl
    have b_7 := g_b hG (a := 77) (i := 8) (lo := 0) (hi := 5) rfl rfl
    have b_8 := g_b hG (a := 77) (i := 6) (lo := 0) (hi := 500) rfl rfl
    have b_9 := g_b hG (a := 77) (i := 1) (lo := 0) (hi := 500) rfl rfl
    have b_10 := g_b hG (a := 77) (i := 43) (lo := 0) (hi := 3000) rfl rfl
    obtain ⟨op, B, i_1, i_2, i_3, i_4, i_5⟩ := id g20
    have b_11 := g_b hG (a := 77) (i := 10) (lo := 0) (hi := 500) rfl rfl
    have z_12 := RS_k g12 (a := (N.2.1 77 10).toInt) (by omega)
    have b_13 := g_b hG (a := 77) (i := 44) (lo := 0) (hi := 40) rfl rfl
    have b_14 := g_b hG (a := 77) (i := 52) (lo := 0) (hi := 5) rfl rfl
    refine to_an (pc := 26) rw_219_26 rfl (tt_gI (pc := 27) rw_219_27 (g_o hG rfl) (v := (N.2.1 77 8)) rfl (b_ine (pc := 30) rw_219_30 (A := (N.2.1 77 8).toInt) rfl (fun h15 => ?_) (fun h15 => ?_)))
    · refine to_an (pc := 40) rw_219_40 rfl (s_v (pc := 41) rw_219_41 (dp0 hd (by decide)) (ls0 := [.ref 77, .null]) rfl (Nat.le_of_ble_eq_true rfl) (Nat.le_of_ble_eq_true rfl) rfl (to_rc rfl rfl rfl (g_o hG rfl)) rfl (D_215 hX (dp1 hd (by decide)) hG (by omega) g7 g8 g12 (by omega) (by omega) (by omega) g13 g14 g15 (by omega) (by omega) (by omega) i_1 i_2 i_3 i_4 (t := t) (nn := nn) (a := (N.2.1 77 10).toInt) (sg := sg) (n9 := (N.2.1 77 44).toInt) (op := op) (A9 := B) (fun r16 M30 hG18 F17 p_19 p_20 p_21 p_22 p_23 p_24 p_25 p_26 p_27 p_28 p_29 => ?_)))
      have F31 := FR.c F0 F17 tg_368
      have b_32 := g_b hG18 (a := 77) (i := 7) (lo := 0) (hi := 500) rfl rfl
      have c_33 : M30.2.1 77 6 = (N.2.1 77 6) := (F_n F17 (show ¬ (77 = 77 ∧ (6 = 4 ∨ 6 = 5 ∨ 7 ≤ 6 ∧ 6 ≤ 10) ∨ 77 = 77 ∧ (6 = 44 ∨ 6 = 52) ∨ 101 ≤ 77 ∧ 77 ≤ 108) by decide) rfl)
      have t_34 : (M30.2.1 77 6).toInt = (N.2.1 77 6).toInt := congrArg Int32.toInt c_33
      have b_35 := g_b hG18 (a := 77) (i := 8) (lo := 0) (hi := 5) rfl rfl
      rcases (show r16.toInt = 0 ∨ r16.toInt = 1 by omega) with h36 | h36
      · skip
        have p_37 := p_29 (by omega)
        clear p_23 p_24 p_27 p_28 p_29
        have z_38 := i_5.trans p_37
        refine b_ine_f (pc := 44) rw_219_44 (A := r16.toInt) rfl (by omega) (to_c (pc := 47) rw_219_47 (x := (-1 : Int32)) rfl rfl (to_r0 (pc := 48) rw_219_48 ?_))
        have k_39 : (-1 : Int32).toInt = -1 := rfl
        have j_40 := (FA_f (tg_356 F17) g2)
        have j_41 := (WC_f (tg_357 F17) g3)
        have j_42 := (NJ_f (tg_358 F17) g4)
        have j_43 := (PS_f (tg_359 F17) g5)
        have j_44 := (KQ_f (tg_360 F17) g6)
        have c_45 : M30.2.1 77 1 = (N.2.1 77 1) := (F_n F17 (show ¬ (77 = 77 ∧ (1 = 4 ∨ 1 = 5 ∨ 7 ≤ 1 ∧ 1 ≤ 10) ∨ 77 = 77 ∧ (1 = 44 ∨ 1 = 52) ∨ 101 ≤ 77 ∧ 77 ≤ 108) by decide) rfl)
        have t_46 : (M30.2.1 77 1).toInt = (N.2.1 77 1).toInt := congrArg Int32.toInt c_45
        have c_47 : M30.2.1 77 42 = (N.2.1 77 42) := (F_n F17 (show ¬ (77 = 77 ∧ (42 = 4 ∨ 42 = 5 ∨ 7 ≤ 42 ∧ 42 ≤ 10) ∨ 77 = 77 ∧ (42 = 44 ∨ 42 = 52) ∨ 101 ≤ 77 ∧ 77 ≤ 108) by decide) rfl)
        have t_48 : (M30.2.1 77 42).toInt = (N.2.1 77 42).toInt := congrArg Int32.toInt c_47
        have c_49 : M30.2.1 77 43 = (N.2.1 77 43) := (F_n F17 (show ¬ (77 = 77 ∧ (43 = 4 ∨ 43 = 5 ∨ 7 ≤ 43 ∧ 43 ≤ 10) ∨ 77 = 77 ∧ (43 = 44 ∨ 43 = 52) ∨ 101 ≤ 77 ∧ 77 ≤ 108) by decide) rfl)
        have t_50 : (M30.2.1 77 43).toInt = (N.2.1 77 43).toInt := congrArg Int32.toInt c_49
        exact h (-1 : Int32) M30 hG18 F31 (by omega) j_40 j_41 j_42 j_43 j_44 (by omega) (by omega) (by omega) (by omega) (by omega) (fun _ => Or.inl ⟨_, _, z_38, rfl⟩)
      · skip
        have p_51 := p_23 (by omega)
        have p_52 := p_24 (by omega)
        have p_53 := p_27 (by omega)
        have p_54 := p_28 (by omega)
        clear p_23 p_24 p_27 p_28 p_29
        have z_55 := WS_eq i_5 p_54
        refine b_ine_t (pc := 44) rw_219_44 (A := r16.toInt) rfl (by omega) ?_
        have j_56 := (FA_f (tg_356 F17) g2)
        have j_57 := (WC_f (tg_357 F17) g3)
        have j_58 := (NJ_f (tg_358 F17) g4)
        have j_59 := (PS_f (tg_359 F17) g5)
        have j_60 := (KQ_f (tg_360 F17) g6)
        have c_61 : M30.2.1 77 1 = (N.2.1 77 1) := (F_n F17 (show ¬ (77 = 77 ∧ (1 = 4 ∨ 1 = 5 ∨ 7 ≤ 1 ∧ 1 ≤ 10) ∨ 77 = 77 ∧ (1 = 44 ∨ 1 = 52) ∨ 101 ≤ 77 ∧ 77 ≤ 108) by decide) rfl)
        have t_62 : (M30.2.1 77 1).toInt = (N.2.1 77 1).toInt := congrArg Int32.toInt c_61
        have j_63 := (TR_f (tg_480 F17) g13)
        have j_64 := (W9_f (tg_481 F17) g14)
        have j_65 := (PLk_f (tg_482 F17) g15)
        have c_66 : M30.2.1 77 42 = (N.2.1 77 42) := (F_n F17 (show ¬ (77 = 77 ∧ (42 = 4 ∨ 42 = 5 ∨ 7 ≤ 42 ∧ 42 ≤ 10) ∨ 77 = 77 ∧ (42 = 44 ∨ 42 = 52) ∨ 101 ≤ 77 ∧ 77 ≤ 108) by decide) rfl)
        have t_67 : (M30.2.1 77 42).toInt = (N.2.1 77 42).toInt := congrArg Int32.toInt c_66
        have c_68 : M30.2.1 77 43 = (N.2.1 77 43) := (F_n F17 (show ¬ (77 = 77 ∧ (43 = 4 ∨ 43 = 5 ∨ 7 ≤ 43 ∧ 43 ≤ 10) ∨ 77 = 77 ∧ (43 = 44 ∨ 43 = 52) ∨ 101 ≤ 77 ∧ 77 ≤ 108) by decide) rfl)
        have t_69 : (M30.2.1 77 43).toInt = (N.2.1 77 43).toInt := congrArg Int32.toInt c_68
        exact ih M30 (u1) hG18 F31 (by omega) j_56 j_57 j_58 j_59 j_60 (p_25 (by omega)) (p_26 (by omega)) (by omega) (by omega) (by omega) p_53 j_63 j_64 j_65 (by omega) (by omega) (by omega) (by omega) z_55 (by omega)
    · refine to_an (pc := 33) rw_219_33 rfl (tt_gI (pc := 34) rw_219_34 (g_o hG rfl) (v := (N.2.1 77 52)) rfl (b_ile (pc := 37) rw_219_37 (A := (N.2.1 77 52).toInt) rfl (fun h70 => ?_) (fun h70 => ?_)))
      · obtain ⟨B2, b_i1, b_i2⟩ := WS_e g20 (by omega) (by omega) (by omega) (by omega)
        refine to_an (pc := 49) rw_219_49 rfl (s_v (pc := 50) rw_219_50 (dp0 hd (by decide)) (ls0 := [.ref 77, .null, .null]) rfl (Nat.le_of_ble_eq_true rfl) (Nat.le_of_ble_eq_true rfl) rfl (to_rc rfl rfl rfl (g_o hG rfl)) rfl (E_218 hX (dp1 hd (by decide)) hG g4 g5 g7 g8 (by omega) (by omega) b_i1 (A9 := B2) (n9 := (N.2.1 77 44).toInt) (fun r71 M78 hG73 F72 p_74 p_75 p_76 p_77 => ?_)))
        have F79 := FR.c F0 F72 tg_369
        refine to_r0 (pc := 53) rw_219_53 ?_
        have c_80 : M78.2.1 77 7 = (N.2.1 77 7) := (F_n F72 (show ¬ (77 = 77 ∧ (7 = 42 ∨ 7 = 43) ∨ 94 ≤ 77 ∧ 77 ≤ 98 ∨ 77 = 99 ∨ 77 = 100 ∨ 77 = 109 ∨ 77 = 110 ∨ 77 = 111) by decide) rfl)
        have t_81 : (M78.2.1 77 7).toInt = (N.2.1 77 7).toInt := congrArg Int32.toInt c_80
        have c_82 : M78.2.1 77 6 = (N.2.1 77 6) := (F_n F72 (show ¬ (77 = 77 ∧ (6 = 42 ∨ 6 = 43) ∨ 94 ≤ 77 ∧ 77 ≤ 98 ∨ 77 = 99 ∨ 77 = 100 ∨ 77 = 109 ∨ 77 = 110 ∨ 77 = 111) by decide) rfl)
        have t_83 : (M78.2.1 77 6).toInt = (N.2.1 77 6).toInt := congrArg Int32.toInt c_82
        have j_84 := (FA_f (tg_361 F72) g2)
        have j_85 := (WC_f (tg_362 F72) g3)
        have j_86 := (NJ_f (tg_363 F72) g4)
        have j_87 := (KQ_f (tg_364 F72) g6)
        have c_88 : M78.2.1 77 1 = (N.2.1 77 1) := (F_n F72 (show ¬ (77 = 77 ∧ (1 = 42 ∨ 1 = 43) ∨ 94 ≤ 77 ∧ 77 ≤ 98 ∨ 77 = 99 ∨ 77 = 100 ∨ 77 = 109 ∨ 77 = 110 ∨ 77 = 111) by decide) rfl)
        have t_89 : (M78.2.1 77 1).toInt = (N.2.1 77 1).toInt := congrArg Int32.toInt c_88
        have b_90 := g_b hG73 (a := 77) (i := 43) (lo := 0) (hi := 3000) rfl rfl
        exact h r71 M78 hG73 F79 (by omega) j_84 j_85 j_86 p_74 j_87 (by omega) (by omega) (by omega) (by omega) (by omega) (fun _ => Or.inr ⟨_, _, b_i2, p_77⟩)
      · refine to_an (pc := 40) rw_219_40 rfl (s_v (pc := 41) rw_219_41 (dp0 hd (by decide)) (ls0 := [.ref 77, .null]) rfl (Nat.le_of_ble_eq_true rfl) (Nat.le_of_ble_eq_true rfl) rfl (to_rc rfl rfl rfl (g_o hG rfl)) rfl (D_215 hX (dp1 hd (by decide)) hG (by omega) g7 g8 g12 (by omega) (by omega) (by omega) g13 g14 g15 (by omega) (by omega) (by omega) i_1 i_2 i_3 i_4 (t := t) (nn := nn) (a := (N.2.1 77 10).toInt) (sg := sg) (n9 := (N.2.1 77 44).toInt) (op := op) (A9 := B) (fun r91 M105 hG93 F92 p_94 p_95 p_96 p_97 p_98 p_99 p_100 p_101 p_102 p_103 p_104 => ?_)))
        have F106 := FR.c F0 F92 tg_368
        have b_107 := g_b hG93 (a := 77) (i := 7) (lo := 0) (hi := 500) rfl rfl
        have c_108 : M105.2.1 77 6 = (N.2.1 77 6) := (F_n F92 (show ¬ (77 = 77 ∧ (6 = 4 ∨ 6 = 5 ∨ 7 ≤ 6 ∧ 6 ≤ 10) ∨ 77 = 77 ∧ (6 = 44 ∨ 6 = 52) ∨ 101 ≤ 77 ∧ 77 ≤ 108) by decide) rfl)
        have t_109 : (M105.2.1 77 6).toInt = (N.2.1 77 6).toInt := congrArg Int32.toInt c_108
        have b_110 := g_b hG93 (a := 77) (i := 8) (lo := 0) (hi := 5) rfl rfl
        rcases (show r91.toInt = 0 ∨ r91.toInt = 1 by omega) with h111 | h111
        · skip
          have p_112 := p_104 (by omega)
          clear p_98 p_99 p_102 p_103 p_104
          have z_113 := i_5.trans p_112
          refine b_ine_f (pc := 44) rw_219_44 (A := r91.toInt) rfl (by omega) (to_c (pc := 47) rw_219_47 (x := (-1 : Int32)) rfl rfl (to_r0 (pc := 48) rw_219_48 ?_))
          have k_114 : (-1 : Int32).toInt = -1 := rfl
          have j_115 := (FA_f (tg_356 F92) g2)
          have j_116 := (WC_f (tg_357 F92) g3)
          have j_117 := (NJ_f (tg_358 F92) g4)
          have j_118 := (PS_f (tg_359 F92) g5)
          have j_119 := (KQ_f (tg_360 F92) g6)
          have c_120 : M105.2.1 77 1 = (N.2.1 77 1) := (F_n F92 (show ¬ (77 = 77 ∧ (1 = 4 ∨ 1 = 5 ∨ 7 ≤ 1 ∧ 1 ≤ 10) ∨ 77 = 77 ∧ (1 = 44 ∨ 1 = 52) ∨ 101 ≤ 77 ∧ 77 ≤ 108) by decide) rfl)
          have t_121 : (M105.2.1 77 1).toInt = (N.2.1 77 1).toInt := congrArg Int32.toInt c_120
          have c_122 : M105.2.1 77 42 = (N.2.1 77 42) := (F_n F92 (show ¬ (77 = 77 ∧ (42 = 4 ∨ 42 = 5 ∨ 7 ≤ 42 ∧ 42 ≤ 10) ∨ 77 = 77 ∧ (42 = 44 ∨ 42 = 52) ∨ 101 ≤ 77 ∧ 77 ≤ 108) by decide) rfl)
          have t_123 : (M105.2.1 77 42).toInt = (N.2.1 77 42).toInt := congrArg Int32.toInt c_122
          have c_124 : M105.2.1 77 43 = (N.2.1 77 43) := (F_n F92 (show ¬ (77 = 77 ∧ (43 = 4 ∨ 43 = 5 ∨ 7 ≤ 43 ∧ 43 ≤ 10) ∨ 77 = 77 ∧ (43 = 44 ∨ 43 = 52) ∨ 101 ≤ 77 ∧ 77 ≤ 108) by decide) rfl)
          have t_125 : (M105.2.1 77 43).toInt = (N.2.1 77 43).toInt := congrArg Int32.toInt c_124
          exact h (-1 : Int32) M105 hG93 F106 (by omega) j_115 j_116 j_117 j_118 j_119 (by omega) (by omega) (by omega) (by omega) (by omega) (fun _ => Or.inl ⟨_, _, z_113, rfl⟩)
        · skip
          have p_126 := p_98 (by omega)
          have p_127 := p_99 (by omega)
          have p_128 := p_102 (by omega)
          have p_129 := p_103 (by omega)
          clear p_98 p_99 p_102 p_103 p_104
          have z_130 := WS_eq i_5 p_129
          refine b_ine_t (pc := 44) rw_219_44 (A := r91.toInt) rfl (by omega) ?_
          have j_131 := (FA_f (tg_356 F92) g2)
          have j_132 := (WC_f (tg_357 F92) g3)
          have j_133 := (NJ_f (tg_358 F92) g4)
          have j_134 := (PS_f (tg_359 F92) g5)
          have j_135 := (KQ_f (tg_360 F92) g6)
          have c_136 : M105.2.1 77 1 = (N.2.1 77 1) := (F_n F92 (show ¬ (77 = 77 ∧ (1 = 4 ∨ 1 = 5 ∨ 7 ≤ 1 ∧ 1 ≤ 10) ∨ 77 = 77 ∧ (1 = 44 ∨ 1 = 52) ∨ 101 ≤ 77 ∧ 77 ≤ 108) by decide) rfl)
          have t_137 : (M105.2.1 77 1).toInt = (N.2.1 77 1).toInt := congrArg Int32.toInt c_136
          have j_138 := (TR_f (tg_480 F92) g13)
          have j_139 := (W9_f (tg_481 F92) g14)
          have j_140 := (PLk_f (tg_482 F92) g15)
          have c_141 : M105.2.1 77 42 = (N.2.1 77 42) := (F_n F92 (show ¬ (77 = 77 ∧ (42 = 4 ∨ 42 = 5 ∨ 7 ≤ 42 ∧ 42 ≤ 10) ∨ 77 = 77 ∧ (42 = 44 ∨ 42 = 52) ∨ 101 ≤ 77 ∧ 77 ≤ 108) by decide) rfl)
          have t_142 : (M105.2.1 77 42).toInt = (N.2.1 77 42).toInt := congrArg Int32.toInt c_141
          have c_143 : M105.2.1 77 43 = (N.2.1 77 43) := (F_n F92 (show ¬ (77 = 77 ∧ (43 = 4 ∨ 43 = 5 ∨ 7 ≤ 43 ∧ 43 ≤ 10) ∨ 77 = 77 ∧ (43 = 44 ∨ 43 = 52) ∨ 101 ≤ 77 ∧ 77 ≤ 108) by decide) rfl)
          have t_144 : (M105.2.1 77 43).toInt = (N.2.1 77 43).toInt := congrArg Int32.toInt c_143
          exact ih M105 (u1) hG93 F106 (by omega) j_131 j_132 j_133 j_134 j_135 (p_100 (by omega)) (p_101 (by omega)) (by omega) (by omega) (by omega) p_128 j_138 j_139 j_140 (by omega) (by omega) (by omega) (by omega) z_130 (by omega)
set_option maxRecDepth 4000 in
set_option maxHeartbeats 0 in
theorem E_219 {X : mm_X} {d : Nat} {M : mm_M} {Q : Option Value → mm_M → Prop} {n : Int32} {t : Nat → Int} {nn : Int} {sg : x_S} (hX : g_X X) (hd : 5 ≤ d) (hG : g_G M) (q1 : (M.2.1 77 7).toInt ≤ (M.2.1 77 6).toInt) (q2 : FA M) (q3 : WC M) (q4 : NJ M) (q5 : PS M) (q6 : KQ M) (q7 : 0 ≤ n.toInt ∧ n.toInt ≤ (M.2.1 77 1).toInt → n.toInt = nn) (q8 : TR M t nn) (q9 : W9 M) (q10 : PLk M sg) (h : ∀ (r : Int32) (M1 : mm_M), g_G M1 → FR md_wk M M1 → ((M1.2.1 77 7).toInt ≤ (M1.2.1 77 6).toInt) → FA M1 → WC M1 → NJ M1 → PS M1 → KQ M1 → (n.toInt < 0 ∨ (M.2.1 77 1).toInt < n.toInt → (M1.2.1 77 1).toInt = (M.2.1 77 1).toInt) → (0 ≤ n.toInt ∧ n.toInt ≤ (M.2.1 77 1).toInt → (M1.2.1 77 1).toInt = 0) → (n.toInt < 0 ∨ (M.2.1 77 1).toInt < n.toInt → r.toInt = -2) → (-2 ≤ r.toInt) → (r.toInt < 0 → (M1.2.1 77 42).toInt = (M.2.1 77 42).toInt ∧ (M1.2.1 77 43).toInt = (M.2.1 77 43).toInt) → ((0 ≤ n.toInt ∧ n.toInt ≤ (M.2.1 77 1).toInt → WAN (x_ww t nn sg 0 0 [] x_A0 (x_sk t nn 0)) r.toInt (M1.2.1 77 43).toInt (M1.2.1 77 42).toInt)) → Q (some (.int r)) M1) : mm_T X d 218 0 [.ref 77, .int n] [] M Q := by
  have F0 : FR md_wk M M := FR.rf
  have b_145 := g_b hG (a := 77) (i := 7) (lo := 0) (hi := 500) rfl rfl
  have b_146 := g_b hG (a := 77) (i := 6) (lo := 0) (hi := 500) rfl rfl
  have b_147 := g_b hG (a := 77) (i := 1) (lo := 0) (hi := 500) rfl rfl
  have b_148 := g_b hG (a := 77) (i := 43) (lo := 0) (hi := 3000) rfl rfl
  refine to_an (pc := 0) rw_219_0 rfl (to_c (pc := 1) rw_219_1 (x := (0 : Int32)) rfl rfl (s_pI (pc := 2) rw_219_2 hG rfl (fun M150 W149 => ?_)))
  have hG151 := g_wf hG W149 rfl rfl (by decide)
  have F152 := FR.w F0 W149 (show 77 = 77 ∧ (1 ≤ 2 ∧ 2 ≤ 2 ∨ 4 ≤ 2 ∧ 2 ≤ 10 ∨ 42 ≤ 2 ∧ 2 ≤ 44 ∨ 2 = 52) ∨ 94 ≤ 77 ∧ 77 ≤ 111 by decide)
  refine to_an (pc := 5) rw_219_5 rfl (to_in (pc := 6) rw_219_6 rfl (s_v (pc := 7) rw_219_7 (dp0 hd (by decide)) (ls0 := [.ref 77, .int n]) rfl (Nat.le_of_ble_eq_true rfl) (Nat.le_of_ble_eq_true rfl) rfl (to_rc rfl rfl rfl (g_o hG151 rfl)) rfl ?_))
  have c_153 : M150.2.1 77 1 = (M.2.1 77 1) := (W_n W149 (by decide) rfl)
  have t_154 : (M150.2.1 77 1).toInt = (M.2.1 77 1).toInt := congrArg Int32.toInt c_153
  have c_155 : M150.2.1 77 7 = (M.2.1 77 7) := (W_n W149 (by decide) rfl)
  have t_156 : (M150.2.1 77 7).toInt = (M.2.1 77 7).toInt := congrArg Int32.toInt c_155
  have c_157 : M150.2.1 77 6 = (M.2.1 77 6) := (W_n W149 (by decide) rfl)
  have t_158 : (M150.2.1 77 6).toInt = (M.2.1 77 6).toInt := congrArg Int32.toInt c_157
  have j_159 := (TR_f (fun a i z => W_n W149 (tg_88 a i z) rfl) q8)
  have j_160 := (W9_f (fun a i z => W_n W149 (tg_89 a i z) rfl) q9)
  refine E_163 hX (dp1 hd (by decide)) hG151 (by omega) (by omega) j_159 j_160 (n := n) (fun r161 M170 hG163 F162 p_164 p_165 p_166 p_167 p_168 p_169 => ?_)
  have F171 := FR.c F152 F162 tg_370
  have b_172 := g_b hG163 (a := 77) (i := 7) (lo := 0) (hi := 500) rfl rfl
  have b_173 := g_b hG163 (a := 77) (i := 6) (lo := 0) (hi := 500) rfl rfl
  have b_174 := g_b hG163 (a := 77) (i := 1) (lo := 0) (hi := 500) rfl rfl
  rcases (show r161.toInt = 0 ∨ r161.toInt = 1 by omega) with h175 | h175
  · skip
    clear p_169
    refine b_ine_f (pc := 10) rw_219_10 (A := r161.toInt) rfl (by omega) (to_c (pc := 13) rw_219_13 (x := (-2 : Int32)) rfl rfl (to_r0 (pc := 15) rw_219_15 ?_))
    have k_176 : (-2 : Int32).toInt = -2 := rfl
    have j_177 := (FA_f (tg_320 F162) (FA_f (fun a i z => W_n W149 (tg_94 a i z) rfl) q2))
    have j_178 := (WC_f (tg_322 F162) (WC_f (fun a i z => W_n W149 (by /-r77,2-/ omega) rfl) q3))
    have j_179 := (NJ_f (tg_324 F162) (NJ_f (fun a i z => W_n W149 (by /-r77,2-/ omega) rfl) q4))
    have j_180 := (PS_f (tg_326 F162) (PS_f (fun a i z => W_n W149 (tg_340 a i z) rfl) q5))
    have j_181 := (KQ_f (tg_328 F162) (KQ_f (fun a i z => W_n W149 (by /-r77,2-/ omega) rfl) q6))
    have c_182 : M170.2.1 77 42 = (M.2.1 77 42) := (F_n F162 (show ¬ (77 = 77 ∧ (42 = 1 ∨ 4 ≤ 42 ∧ 42 ≤ 10)) by decide) (W_n W149 (by decide) rfl))
    have t_183 : (M170.2.1 77 42).toInt = (M.2.1 77 42).toInt := congrArg Int32.toInt c_182
    have c_184 : M170.2.1 77 43 = (M.2.1 77 43) := (F_n F162 (show ¬ (77 = 77 ∧ (43 = 1 ∨ 4 ≤ 43 ∧ 43 ≤ 10)) by decide) (W_n W149 (by decide) rfl))
    have t_185 : (M170.2.1 77 43).toInt = (M.2.1 77 43).toInt := congrArg Int32.toInt c_184
    exact h (-2 : Int32) M170 hG163 F171 (by omega) j_177 j_178 j_179 j_180 j_181 (by omega) (by omega) (by omega) (by omega) (by omega) (fun z => by exfalso; omega)
  · skip
    have p_186 := p_169 (by omega)
    clear p_169
    have b_187 := g_b hG163 (a := 77) (i := 10) (lo := 0) (hi := 500) rfl rfl
    have z_188 := p_186.2
    refine b_ine_t (pc := 10) rw_219_10 (A := r161.toInt) rfl (by omega) (to_an (pc := 16) rw_219_16 rfl (to_c (pc := 17) rw_219_17 (x := (0 : Int32)) rfl rfl (s_pI (pc := 18) rw_219_18 hG163 rfl (fun M190 W189 => ?_))))
    have hG191 := g_w hG163 W189 (A := 0) rfl (lo := 0) (hi := 40) rfl rfl (by omega) (by decide)
    have F192 := FR.w F171 W189 (show 77 = 77 ∧ (1 ≤ 44 ∧ 44 ≤ 2 ∨ 4 ≤ 44 ∧ 44 ≤ 10 ∨ 42 ≤ 44 ∧ 44 ≤ 44 ∨ 44 = 52) ∨ 94 ≤ 77 ∧ 77 ≤ 111 by decide)
    refine to_an (pc := 21) rw_219_21 rfl (to_c (pc := 22) rw_219_22 (x := (0 : Int32)) rfl rfl (s_pI (pc := 23) rw_219_23 hG191 rfl (fun M194 W193 => ?_)))
    have hG195 := g_w hG191 W193 (A := 0) rfl (lo := 0) (hi := 5) rfl rfl (by omega) (by decide)
    have F196 := FR.w F192 W193 (show 77 = 77 ∧ (1 ≤ 52 ∧ 52 ≤ 2 ∨ 4 ≤ 52 ∧ 52 ≤ 10 ∨ 42 ≤ 52 ∧ 52 ≤ 44 ∨ 52 = 52) ∨ 94 ≤ 77 ∧ 77 ≤ 111 by decide)
    have c_197 : M194.2.1 77 44 = (0 : Int32) := (W_n W193 (by decide) (W_e W189))
    have k_198 : (0 : Int32).toInt = 0 := rfl
    have t_199 : (M194.2.1 77 44).toInt = (0 : Int32).toInt := congrArg Int32.toInt c_197
    have c_200 : M194.2.1 77 52 = (0 : Int32) := (W_e W193)
    have t_201 : (M194.2.1 77 52).toInt = (0 : Int32).toInt := congrArg Int32.toInt c_200
    have j_202 : AB M194 := AB_0 (by omega)
    have j_203 : ST M194 := ST_0 (by omega) (by omega)
    have c_204 : M194.2.1 77 7 = (M170.2.1 77 7) := (W_n W193 (by decide) (W_n W189 (by decide) rfl))
    have t_205 : (M194.2.1 77 7).toInt = (M170.2.1 77 7).toInt := congrArg Int32.toInt c_204
    have c_206 : M194.2.1 77 6 = (M170.2.1 77 6) := (W_n W193 (by decide) (W_n W189 (by decide) rfl))
    have t_207 : (M194.2.1 77 6).toInt = (M170.2.1 77 6).toInt := congrArg Int32.toInt c_206
    have j_208 := (FA_f (fun a i z => W_n W193 (tg_375 a i z) rfl) (FA_f (fun a i z => W_n W189 (tg_376 a i z) rfl) (FA_f (tg_320 F162) (FA_f (fun a i z => W_n W149 (tg_94 a i z) rfl) q2))))
    have j_209 := (WC_f (fun a i z => W_n W193 (by /-r77,52-/ omega) rfl) (WC_f (fun a i z => W_n W189 (by /-r77,44-/ omega) rfl) (WC_f (tg_322 F162) (WC_f (fun a i z => W_n W149 (by /-r77,2-/ omega) rfl) q3))))
    have j_210 := (NJ_f (fun a i z => W_n W193 (by /-r77,52-/ omega) rfl) (NJ_f (fun a i z => W_n W189 (by /-r77,44-/ omega) rfl) (NJ_f (tg_324 F162) (NJ_f (fun a i z => W_n W149 (by /-r77,2-/ omega) rfl) q4))))
    have j_211 := (PS_f (fun a i z => W_n W193 (tg_377 a i z) rfl) (PS_f (fun a i z => W_n W189 (tg_378 a i z) rfl) (PS_f (tg_326 F162) (PS_f (fun a i z => W_n W149 (tg_340 a i z) rfl) q5))))
    have j_212 := (KQ_f (fun a i z => W_n W193 (by /-r77,52-/ omega) rfl) (KQ_f (fun a i z => W_n W189 (by /-r77,44-/ omega) rfl) (KQ_f (tg_328 F162) (KQ_f (fun a i z => W_n W149 (by /-r77,2-/ omega) rfl) q6))))
    have c_213 : M194.2.1 77 1 = (M170.2.1 77 1) := (W_n W193 (by decide) (W_n W189 (by decide) rfl))
    have t_214 : (M194.2.1 77 1).toInt = (M170.2.1 77 1).toInt := congrArg Int32.toInt c_213
    have j_215 := (RS_f (fun a i z => W_n W193 (tg_185 a i z) rfl) (RS_f (fun a i z => W_n W189 (tg_177 a i z) rfl) p_186.1))
    have j_216 := (TR_f (fun a i z => W_n W193 (tg_187 a i z) rfl) (TR_f (fun a i z => W_n W189 (tg_179 a i z) rfl) (TR_f (tg_73 F162) j_159)))
    have j_217 := (W9_f (fun a i z => W_n W193 (tg_189 a i z) rfl) (W9_f (fun a i z => W_n W189 (tg_181 a i z) rfl) (W9_f (tg_75 F162) j_160)))
    have j_218 := (PLk_f (fun a i z => W_n W193 (tg_483 a i z) rfl) (PLk_f (fun a i z => W_n W189 (tg_183 a i z) rfl) (PLk_f (tg_462 F162) (PLk_f (fun a i z => W_n W149 (tg_91 a i z) rfl) q10))))
    have c_219 : M194.2.1 77 42 = (M.2.1 77 42) := (W_n W193 (by decide) (W_n W189 (by decide) (F_n F162 (show ¬ (77 = 77 ∧ (42 = 1 ∨ 4 ≤ 42 ∧ 42 ≤ 10)) by decide) (W_n W149 (by decide) rfl))))
    have t_220 : (M194.2.1 77 42).toInt = (M.2.1 77 42).toInt := congrArg Int32.toInt c_219
    have c_221 : M194.2.1 77 43 = (M.2.1 77 43) := (W_n W193 (by decide) (W_n W189 (by decide) (F_n F162 (show ¬ (77 = 77 ∧ (43 = 1 ∨ 4 ≤ 43 ∧ 43 ≤ 10)) by decide) (W_n W149 (by decide) rfl))))
    have t_222 : (M194.2.1 77 43).toInt = (M.2.1 77 43).toInt := congrArg Int32.toInt c_221
    have c_223 : M194.2.1 77 10 = (M170.2.1 77 10) := (W_n W193 (by decide) (W_n W189 (by decide) rfl))
    have t_224 : (M194.2.1 77 10).toInt = (M170.2.1 77 10).toInt := congrArg Int32.toInt c_223
    have c_225 : M194.2.1 77 8 = (M170.2.1 77 8) := (W_n W193 (by decide) (W_n W189 (by decide) rfl))
    have b_226 := g_b hG163 (a := 77) (i := 8) (lo := 0) (hi := 5) rfl rfl
    have t_227 : (M194.2.1 77 8).toInt = (M170.2.1 77 8).toInt := congrArg Int32.toInt c_225
    exact (U_219_0 (n := n) (t := t) (nn := nn) (sg := sg) hX hd q1 q2 q3 q4 q5 q6 q7 q8 q9 q10 h ((6 * (500 - (M194.2.1 77 7).toInt) + (M194.2.1 77 8).toInt).toNat + 1)) M194 (.int n) hG195 F196 (by omega) j_208 j_209 j_210 j_211 j_212 j_202 j_203 (by omega) (by omega) (by omega) j_215 j_216 j_217 j_218 (by omega) (by omega) (by omega) (by omega) (WS_0 (by omega) (by omega) (by omega) rfl) (by omega)
