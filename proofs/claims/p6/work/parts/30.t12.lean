theorem tg_488 {M M1 : mm_M} (F : FR (fun a i : Nat => a = 77 ∧ (i = 4 ∨ i = 5 ∨ 7 ≤ i ∧ i ≤ 10) ∨ a = 77 ∧ (i = 44 ∨ i = 52) ∨ 101 ≤ a ∧ a ≤ 108) M M1) : ∀ a i : Nat, a = 78 → M1.2.1 a i = M.2.1 a i := fun a i z => F_n F (show ¬ (a = 77 ∧ (i = 4 ∨ i = 5 ∨ 7 ≤ i ∧ i ≤ 10) ∨ a = 77 ∧ (i = 44 ∨ i = 52) ∨ 101 ≤ a ∧ a ≤ 108) by omega) rfl
theorem tg_489 {M M1 : mm_M} (F : FR (fun a i : Nat => a = 77 ∧ (i = 4 ∨ i = 5 ∨ 7 ≤ i ∧ i ≤ 10) ∨ a = 77 ∧ (i = 44 ∨ i = 52) ∨ 101 ≤ a ∧ a ≤ 108) M M1) : ∀ a i : Nat, a = 79 → M1.2.1 a i = M.2.1 a i := fun a i z => F_n F (show ¬ (a = 77 ∧ (i = 4 ∨ i = 5 ∨ 7 ≤ i ∧ i ≤ 10) ∨ a = 77 ∧ (i = 44 ∨ i = 52) ∨ 101 ≤ a ∧ a ≤ 108) by omega) rfl
theorem tg_490 {M M1 : mm_M} (F : FR (fun a i : Nat => a = 77 ∧ (i = 4 ∨ i = 5 ∨ 7 ≤ i ∧ i ≤ 10) ∨ a = 77 ∧ (i = 44 ∨ i = 52) ∨ 101 ≤ a ∧ a ≤ 108) M M1) : ∀ a i : Nat, (a = 77 ∧ 11 ≤ i ∧ i ≤ 13 ∨ 80 ≤ a ∧ a ≤ 84 ∧ i < 8 ∨ 85 ≤ a ∧ a ≤ 86 ∧ i < 12) → M1.2.1 a i = M.2.1 a i := fun a i z => F_n F (show ¬ (a = 77 ∧ (i = 4 ∨ i = 5 ∨ 7 ≤ i ∧ i ≤ 10) ∨ a = 77 ∧ (i = 44 ∨ i = 52) ∨ 101 ≤ a ∧ a ≤ 108) by omega) rfl
theorem tg_491 : ∀ a i : Nat, (a = 77 ∧ 11 ≤ i ∧ i ≤ 13 ∨ 80 ≤ a ∧ a ≤ 84 ∧ i < 8 ∨ 85 ≤ a ∧ a ≤ 86 ∧ i < 12) → ¬ (a = 77 ∧ i = 52) := fun a i z => by omega
theorem D_215 {X : mm_X} {d : Nat} {M : mm_M} {Q : Option Value → mm_M → Prop} {t : Nat → Int} {nn : Int} {a : Int} {sg : x_S} {n9 : Int} {op : List Int} {A9 : x_A} (hX : g_X X) (hd : 4 ≤ d) (hG : g_G M) (q1 : (M.2.1 77 7).toInt ≤ (M.2.1 77 6).toInt) (q2 : AB M) (q3 : ST M) (q4 : RS M t nn) (q5 : (M.2.1 77 10).toInt = a) (q6 : 0 ≤ nn) (q7 : nn ≤ 500) (q8 : TR M t nn) (q9 : W9 M) (q10 : PLk M sg) (q11 : (M.2.1 77 44).toInt = n9) (q12 : 0 ≤ n9) (q13 : ¬ (x_kind t nn a = 0 ∧ (M.2.1 77 52).toInt = 0)) (q14 : WKr M A9 n9 op) (q15 : OPR (orow M) op) (q16 : (op.length : Int) = (M.2.1 77 52).toInt) (q17 : ∀ m ∈ op, 0 ≤ m ∧ m < n9) (h : ∀ (r : Int32) (M1 : mm_M), g_G M1 → FR md_ac M M1 → (0 ≤ r.toInt) → (r.toInt ≤ 1) → ((M1.2.1 77 7).toInt ≤ (M1.2.1 77 6).toInt) → ((M.2.1 77 7).toInt ≤ (M1.2.1 77 7).toInt) → (r.toInt = 1 → (M1.2.1 77 8).toInt = 0 ∨ (M.2.1 77 7).toInt < (M1.2.1 77 7).toInt) → (r.toInt = 1 → ¬ (M.2.1 77 8).toInt = 0) → (r.toInt = 1 → AB M1) → (r.toInt = 1 → ST M1) → (r.toInt = 1 → (M1.2.1 77 4).toInt = (M.2.1 77 4).toInt ∧ (M1.2.1 77 5).toInt = (M.2.1 77 5).toInt) → ((r.toInt = 1 → RS M1 t nn)) → ((r.toInt = 1 → WS t nn sg (x_ww t nn sg 0 n9 op A9 a) M1)) → ((r.toInt = 0 → x_ww t nn sg 0 n9 op A9 a = Sum.inl ((M1.2.1 77 4).toInt, (M1.2.1 77 5).toInt))) → Q (some (.int r)) M1) : mm_T X d 214 0 [.ref 77, .null] [] M Q := by
  refine T_im (T_and (C_215 hX (by omega) hG q1 q2 q3  (Q := (fun v M1 => ∃ r : Int32, v = some (.int r) ∧ g_G M1 ∧ FR md_ac M M1 ∧ (0 ≤ r.toInt) ∧ (r.toInt ≤ 1) ∧ ((M1.2.1 77 7).toInt ≤ (M1.2.1 77 6).toInt) ∧ ((M.2.1 77 7).toInt ≤ (M1.2.1 77 7).toInt) ∧ (r.toInt = 1 → (M1.2.1 77 8).toInt = 0 ∨ (M.2.1 77 7).toInt < (M1.2.1 77 7).toInt) ∧ (r.toInt = 1 → ¬ (M.2.1 77 8).toInt = 0) ∧ (r.toInt = 1 → AB M1) ∧ (r.toInt = 1 → ST M1) ∧ (r.toInt = 1 → (M1.2.1 77 4).toInt = (M.2.1 77 4).toInt ∧ (M1.2.1 77 5).toInt = (M.2.1 77 5).toInt))) (fun r M1 a0 a1 a2 a3 a4 a5 a6 a7 a8 a9 a10 => ⟨r, rfl, a0, a1, a2, a3, a4, a5, a6, a7, a8, a9, a10⟩)) (E_215 hX (by omega) hG q4 q5 q6 q7 q8 q9 q10 q11 q12 q13 q14 q15 q16 q17 (t := t) (nn := nn) (a := a) (sg := sg) (n9 := n9) (op := op) (A9 := A9) (Q := (fun v M1 => ∃ r : Int32, v = some (.int r) ∧ (0 ≤ r.toInt) ∧ (r.toInt ≤ 1) ∧ ((r.toInt = 1 → RS M1 t nn)) ∧ ((r.toInt = 1 → WS t nn sg (x_ww t nn sg 0 n9 op A9 a) M1)) ∧ ((r.toInt = 0 → x_ww t nn sg 0 n9 op A9 a = Sum.inl ((M1.2.1 77 4).toInt, (M1.2.1 77 5).toInt))))) (fun r M1 _ _ b0 b1 b2 b3 b4 => ⟨r, rfl, b0, b1, b2, b3, b4⟩))) ?_
  intro v M1 hh
  obtain ⟨⟨r, hv, a0, a1, a2, a3, a4, a5, a6, a7, a8, a9, a10⟩, ⟨r2, hv2, b0, b1, b2, b3, b4⟩⟩ := hh
  have e : r2 = r := by
    rw [hv] at hv2
    injection hv2 with z
    injection z with z
    exact z.symm
  subst e
  subst hv
  exact h _ M1 a0 a1 a2 a3 a4 a5 a6 a7 a8 a9 a10 b2 b3 b4
set_option maxRecDepth 4000 in
set_option maxHeartbeats 0 in
theorem U_219_0 {X : mm_X} {d : Nat} {M : mm_M} {Q : Option Value → mm_M → Prop} {n : Int32} {t : Nat → Int} {nn : Int} {sg : x_S} (hX : g_X X) (hd : 5 ≤ d) (q1 : (M.2.1 77 7).toInt ≤ (M.2.1 77 6).toInt) (q2 : FA M) (q3 : WC M) (q4 : NJ M) (q5 : PS M) (q6 : KQ M) (q7 : 0 ≤ n.toInt ∧ n.toInt ≤ (M.2.1 77 1).toInt → n.toInt = nn) (q8 : TR M t nn) (q9 : W9 M) (q10 : PLk M sg) (h : ∀ (r : Int32) (M1 : mm_M), g_G M1 → FR md_wk M M1 → ((M1.2.1 77 7).toInt ≤ (M1.2.1 77 6).toInt) → FA M1 → WC M1 → NJ M1 → PS M1 → KQ M1 → (n.toInt < 0 ∨ (M.2.1 77 1).toInt < n.toInt → (M1.2.1 77 1).toInt = (M.2.1 77 1).toInt) → (0 ≤ n.toInt ∧ n.toInt ≤ (M.2.1 77 1).toInt → (M1.2.1 77 1).toInt = 0) → (0 ≤ r.toInt → (M1.2.1 77 4).toInt = 0 ∧ (M1.2.1 77 5).toInt = -1) → (n.toInt < 0 ∨ (M.2.1 77 1).toInt < n.toInt → (M1.2.1 77 4).toInt = (M.2.1 77 4).toInt ∧ (M1.2.1 77 5).toInt = (M.2.1 77 5).toInt) → (n.toInt < 0 ∨ (M.2.1 77 1).toInt < n.toInt → r.toInt = -2) → (-2 ≤ r.toInt) → (r.toInt < 0 → (M1.2.1 77 42).toInt = (M.2.1 77 42).toInt ∧ (M1.2.1 77 43).toInt = (M.2.1 77 43).toInt) → ((0 ≤ n.toInt ∧ n.toInt ≤ (M.2.1 77 1).toInt → WAN (x_ww t nn sg 0 0 [] x_A0 (x_sk t nn 0)) r.toInt (M1.2.1 77 43).toInt (M1.2.1 77 42).toInt)) → ((r.toInt = -1 → x_ww t nn sg 0 0 [] x_A0 (x_sk t nn 0) = Sum.inl ((M1.2.1 77 4).toInt, (M1.2.1 77 5).toInt))) → Q (some (.int r)) M1) : ∀ nn9 : Nat, (∀ (N : mm_M) (u1 : Value), g_G N → FR md_wk M N → ((N.2.1 77 7).toInt ≤ (N.2.1 77 6).toInt) → (FA N) → (WC N) → (NJ N) → (PS N) → (KQ N) → (AB N) → (ST N) → ((N.2.1 77 1).toInt = 0) → (0 ≤ n.toInt) → (n.toInt ≤ (M.2.1 77 1).toInt) → ((N.2.1 77 4).toInt = 0) → ((N.2.1 77 5).toInt = -1) → (RS N t nn) → (TR N t nn) → (W9 N) → (PLk N sg) → (0 ≤ nn) → (nn ≤ 500) → ((N.2.1 77 42).toInt = (M.2.1 77 42).toInt) → ((N.2.1 77 43).toInt = (M.2.1 77 43).toInt) → (WS t nn sg (x_ww t nn sg 0 0 [] x_A0 (x_sk t nn 0)) N) → 6 * (500 - (N.2.1 77 7).toInt) + (N.2.1 77 8).toInt < (nn9 : Int) → mm_T X d 218 26 [.ref 77, u1] [] N Q) := by
  intro nn9
  induction nn9 with
  | zero =>
    intro N u1 hG F0 g1 g2 g3 g4 g5 g6 g7 g8 g9 g10 g11 g12 g13 g14 g15 g16 g17 g18 g19 g20 g21 g22 hm
    have b_1 := g_b hG (a := 77) (i := 7) (lo := 0) (hi := 500) rfl rfl
    have b_2 := g_b hG (a := 77) (i := 8) (lo := 0) (hi := 5) rfl rfl
    have b_3 := g_b hG (a := 77) (i := 6) (lo := 0) (hi := 500) rfl rfl
    have b_4 := g_b hG (a := 77) (i := 1) (lo := 0) (hi := 500) rfl rfl
    have b_5 := g_b hG (a := 77) (i := 43) (lo := 0) (hi := 3000) rfl rfl
    exfalso; omega
  | succ nn9 ih =>
    intro N u1 hG F0 g1 g2 g3 g4 g5 g6 g7 g8 g9 g10 g11 g12 g13 g14 g15 g16 g17 g18 g19 g20 g21 g22 hm
    have b_6 := g_b hG (a := 77) (i := 7) (lo := 0) (hi := 500) rfl rfl
    have b_7 := g_b hG (a := 77) (i := 8) (lo := 0) (hi := 5) rfl rfl
    have b_8 := g_b hG (a := 77) (i := 6) (lo := 0) (hi := 500) rfl rfl
    have b_9 := g_b hG (a := 77) (i := 1) (lo := 0) (hi := 500) rfl rfl
    have b_10 := g_b hG (a := 77) (i := 43) (lo := 0) (hi := 3000) rfl rfl
    obtain ⟨op, B, i_1, i_2, i_3, i_4, i_5⟩ := id g22
    have b_11 := g_b hG (a := 77) (i := 10) (lo := 0) (hi := 500) rfl rfl
    have z_12 := RS_k g14 (a := (N.2.1 77 10).toInt) (by omega)
    have b_13 := g_b hG (a := 77) (i := 44) (lo := 0) (hi := 40) rfl rfl
    have b_14 := g_b hG (a := 77) (i := 52) (lo := 0) (hi := 5) rfl rfl
    refine to_an (pc := 26) rw_219_26 rfl (tt_gI (pc := 27) rw_219_27 (g_o hG rfl) (v := (N.2.1 77 8)) rfl (b_ine (pc := 30) rw_219_30 (A := (N.2.1 77 8).toInt) rfl (fun h15 => ?_) (fun h15 => ?_)))
    · refine to_an (pc := 40) rw_219_40 rfl (s_v (pc := 41) rw_219_41 (dp0 hd (by decide)) (ls0 := [.ref 77, .null]) rfl (Nat.le_of_ble_eq_true rfl) (Nat.le_of_ble_eq_true rfl) rfl (to_rc rfl rfl rfl (g_o hG rfl)) rfl (D_215 hX (dp1 hd (by decide)) hG (by omega) g7 g8 g14 (by omega) (by omega) (by omega) g15 g16 g17 (by omega) (by omega) (by omega) i_1 i_2 i_3 i_4 (t := t) (nn := nn) (a := (N.2.1 77 10).toInt) (sg := sg) (n9 := (N.2.1 77 44).toInt) (op := op) (A9 := B) (fun r16 M31 hG18 F17 p_19 p_20 p_21 p_22 p_23 p_24 p_25 p_26 p_27 p_28 p_29 p_30 => ?_)))
      have F32 := FR.c F0 F17 tg_376
      have b_33 := g_b hG18 (a := 77) (i := 7) (lo := 0) (hi := 500) rfl rfl
      have c_34 : M31.2.1 77 6 = (N.2.1 77 6) := (F_n F17 (show ¬ (77 = 77 ∧ (6 = 4 ∨ 6 = 5 ∨ 7 ≤ 6 ∧ 6 ≤ 10) ∨ 77 = 77 ∧ (6 = 44 ∨ 6 = 52) ∨ 101 ≤ 77 ∧ 77 ≤ 108) by decide) rfl)
      have t_35 : (M31.2.1 77 6).toInt = (N.2.1 77 6).toInt := congrArg Int32.toInt c_34
      have b_36 := g_b hG18 (a := 77) (i := 8) (lo := 0) (hi := 5) rfl rfl
      rcases (show r16.toInt = 0 ∨ r16.toInt = 1 by omega) with h37 | h37
      · skip
        have p_38 := p_30 (by omega)
        clear p_23 p_24 p_27 p_28 p_29 p_30
        have z_39 := i_5.trans p_38
        refine b_ine_f (pc := 44) rw_219_44 (A := r16.toInt) rfl (by omega) (to_c (pc := 47) rw_219_47 (x := (-1 : Int32)) rfl rfl (to_r0 (pc := 48) rw_219_48 ?_))
        have k_40 : (-1 : Int32).toInt = -1 := rfl
        have j_41 := (FA_f (tg_364 F17) g2)
        have j_42 := (WC_f (tg_365 F17) g3)
        have j_43 := (NJ_f (tg_366 F17) g4)
        have j_44 := (PS_f (tg_367 F17) g5)
        have j_45 := (KQ_f (tg_368 F17) g6)
        have c_46 : M31.2.1 77 1 = (N.2.1 77 1) := (F_n F17 (show ¬ (77 = 77 ∧ (1 = 4 ∨ 1 = 5 ∨ 7 ≤ 1 ∧ 1 ≤ 10) ∨ 77 = 77 ∧ (1 = 44 ∨ 1 = 52) ∨ 101 ≤ 77 ∧ 77 ≤ 108) by decide) rfl)
        have t_47 : (M31.2.1 77 1).toInt = (N.2.1 77 1).toInt := congrArg Int32.toInt c_46
        have c_48 : M31.2.1 77 42 = (N.2.1 77 42) := (F_n F17 (show ¬ (77 = 77 ∧ (42 = 4 ∨ 42 = 5 ∨ 7 ≤ 42 ∧ 42 ≤ 10) ∨ 77 = 77 ∧ (42 = 44 ∨ 42 = 52) ∨ 101 ≤ 77 ∧ 77 ≤ 108) by decide) rfl)
        have t_49 : (M31.2.1 77 42).toInt = (N.2.1 77 42).toInt := congrArg Int32.toInt c_48
        have c_50 : M31.2.1 77 43 = (N.2.1 77 43) := (F_n F17 (show ¬ (77 = 77 ∧ (43 = 4 ∨ 43 = 5 ∨ 7 ≤ 43 ∧ 43 ≤ 10) ∨ 77 = 77 ∧ (43 = 44 ∨ 43 = 52) ∨ 101 ≤ 77 ∧ 77 ≤ 108) by decide) rfl)
        have t_51 : (M31.2.1 77 43).toInt = (N.2.1 77 43).toInt := congrArg Int32.toInt c_50
        exact h (-1 : Int32) M31 hG18 F32 (by omega) j_41 j_42 j_43 j_44 j_45 (by omega) (by omega) (by omega) (by omega) (by omega) (by omega) (by omega) (fun _ => Or.inl ⟨_, _, z_39, rfl⟩) (fun _ => z_39)
      · skip
        have p_52 := p_23 (by omega)
        have p_53 := p_24 (by omega)
        have p_54 := p_27 (by omega)
        have p_55 := p_28 (by omega)
        have p_56 := p_29 (by omega)
        clear p_23 p_24 p_27 p_28 p_29 p_30
        have z_57 := WS_eq i_5 p_56
        refine b_ine_t (pc := 44) rw_219_44 (A := r16.toInt) rfl (by omega) ?_
        have j_58 := (FA_f (tg_364 F17) g2)
        have j_59 := (WC_f (tg_365 F17) g3)
        have j_60 := (NJ_f (tg_366 F17) g4)
        have j_61 := (PS_f (tg_367 F17) g5)
        have j_62 := (KQ_f (tg_368 F17) g6)
        have c_63 : M31.2.1 77 1 = (N.2.1 77 1) := (F_n F17 (show ¬ (77 = 77 ∧ (1 = 4 ∨ 1 = 5 ∨ 7 ≤ 1 ∧ 1 ≤ 10) ∨ 77 = 77 ∧ (1 = 44 ∨ 1 = 52) ∨ 101 ≤ 77 ∧ 77 ≤ 108) by decide) rfl)
        have t_64 : (M31.2.1 77 1).toInt = (N.2.1 77 1).toInt := congrArg Int32.toInt c_63
        have j_65 := (TR_f (tg_488 F17) g15)
        have j_66 := (W9_f (tg_489 F17) g16)
        have j_67 := (PLk_f (tg_490 F17) g17)
        have c_68 : M31.2.1 77 42 = (N.2.1 77 42) := (F_n F17 (show ¬ (77 = 77 ∧ (42 = 4 ∨ 42 = 5 ∨ 7 ≤ 42 ∧ 42 ≤ 10) ∨ 77 = 77 ∧ (42 = 44 ∨ 42 = 52) ∨ 101 ≤ 77 ∧ 77 ≤ 108) by decide) rfl)
        have t_69 : (M31.2.1 77 42).toInt = (N.2.1 77 42).toInt := congrArg Int32.toInt c_68
        have c_70 : M31.2.1 77 43 = (N.2.1 77 43) := (F_n F17 (show ¬ (77 = 77 ∧ (43 = 4 ∨ 43 = 5 ∨ 7 ≤ 43 ∧ 43 ≤ 10) ∨ 77 = 77 ∧ (43 = 44 ∨ 43 = 52) ∨ 101 ≤ 77 ∧ 77 ≤ 108) by decide) rfl)
        have t_71 : (M31.2.1 77 43).toInt = (N.2.1 77 43).toInt := congrArg Int32.toInt c_70
        exact ih M31 (u1) hG18 F32 (by omega) j_58 j_59 j_60 j_61 j_62 (p_25 (by omega)) (p_26 (by omega)) (by omega) (by omega) (by omega) (by omega) (by omega) p_55 j_65 j_66 j_67 (by omega) (by omega) (by omega) (by omega) z_57 (by omega)
    · refine to_an (pc := 33) rw_219_33 rfl (tt_gI (pc := 34) rw_219_34 (g_o hG rfl) (v := (N.2.1 77 52)) rfl (b_ile (pc := 37) rw_219_37 (A := (N.2.1 77 52).toInt) rfl (fun h72 => ?_) (fun h72 => ?_)))
      · obtain ⟨B2, b_i1, b_i2⟩ := WS_e g22 (by omega) (by omega) (by omega) (by omega)
        refine to_an (pc := 49) rw_219_49 rfl (s_v (pc := 50) rw_219_50 (dp0 hd (by decide)) (ls0 := [.ref 77, .null, .null]) rfl (Nat.le_of_ble_eq_true rfl) (Nat.le_of_ble_eq_true rfl) rfl (to_rc rfl rfl rfl (g_o hG rfl)) rfl (E_218 hX (dp1 hd (by decide)) hG g4 g5 g7 g8 (by omega) (by omega) b_i1 (A9 := B2) (n9 := (N.2.1 77 44).toInt) (fun r73 M80 hG75 F74 p_76 p_77 p_78 p_79 => ?_)))
        have F81 := FR.c F0 F74 tg_377
        refine to_r0 (pc := 53) rw_219_53 ?_
        have c_82 : M80.2.1 77 7 = (N.2.1 77 7) := (F_n F74 (show ¬ (77 = 77 ∧ (7 = 42 ∨ 7 = 43) ∨ 94 ≤ 77 ∧ 77 ≤ 98 ∨ 77 = 99 ∨ 77 = 100 ∨ 77 = 109 ∨ 77 = 110 ∨ 77 = 111) by decide) rfl)
        have t_83 : (M80.2.1 77 7).toInt = (N.2.1 77 7).toInt := congrArg Int32.toInt c_82
        have c_84 : M80.2.1 77 6 = (N.2.1 77 6) := (F_n F74 (show ¬ (77 = 77 ∧ (6 = 42 ∨ 6 = 43) ∨ 94 ≤ 77 ∧ 77 ≤ 98 ∨ 77 = 99 ∨ 77 = 100 ∨ 77 = 109 ∨ 77 = 110 ∨ 77 = 111) by decide) rfl)
        have t_85 : (M80.2.1 77 6).toInt = (N.2.1 77 6).toInt := congrArg Int32.toInt c_84
        have j_86 := (FA_f (tg_369 F74) g2)
        have j_87 := (WC_f (tg_370 F74) g3)
        have j_88 := (NJ_f (tg_371 F74) g4)
        have j_89 := (KQ_f (tg_372 F74) g6)
        have c_90 : M80.2.1 77 1 = (N.2.1 77 1) := (F_n F74 (show ¬ (77 = 77 ∧ (1 = 42 ∨ 1 = 43) ∨ 94 ≤ 77 ∧ 77 ≤ 98 ∨ 77 = 99 ∨ 77 = 100 ∨ 77 = 109 ∨ 77 = 110 ∨ 77 = 111) by decide) rfl)
        have t_91 : (M80.2.1 77 1).toInt = (N.2.1 77 1).toInt := congrArg Int32.toInt c_90
        have c_92 : M80.2.1 77 4 = (N.2.1 77 4) := (F_n F74 (show ¬ (77 = 77 ∧ (4 = 42 ∨ 4 = 43) ∨ 94 ≤ 77 ∧ 77 ≤ 98 ∨ 77 = 99 ∨ 77 = 100 ∨ 77 = 109 ∨ 77 = 110 ∨ 77 = 111) by decide) rfl)
        have t_93 : (M80.2.1 77 4).toInt = (N.2.1 77 4).toInt := congrArg Int32.toInt c_92
        have c_94 : M80.2.1 77 5 = (N.2.1 77 5) := (F_n F74 (show ¬ (77 = 77 ∧ (5 = 42 ∨ 5 = 43) ∨ 94 ≤ 77 ∧ 77 ≤ 98 ∨ 77 = 99 ∨ 77 = 100 ∨ 77 = 109 ∨ 77 = 110 ∨ 77 = 111) by decide) rfl)
        have t_95 : (M80.2.1 77 5).toInt = (N.2.1 77 5).toInt := congrArg Int32.toInt c_94
        have b_96 := g_b hG75 (a := 77) (i := 43) (lo := 0) (hi := 3000) rfl rfl
        exact h r73 M80 hG75 F81 (by omega) j_86 j_87 j_88 p_76 j_89 (by omega) (by omega) (by omega) (by omega) (by omega) (by omega) (by omega) (fun _ => Or.inr ⟨_, _, b_i2, p_79⟩) (fun z => by exfalso; omega)
      · refine to_an (pc := 40) rw_219_40 rfl (s_v (pc := 41) rw_219_41 (dp0 hd (by decide)) (ls0 := [.ref 77, .null]) rfl (Nat.le_of_ble_eq_true rfl) (Nat.le_of_ble_eq_true rfl) rfl (to_rc rfl rfl rfl (g_o hG rfl)) rfl (D_215 hX (dp1 hd (by decide)) hG (by omega) g7 g8 g14 (by omega) (by omega) (by omega) g15 g16 g17 (by omega) (by omega) (by omega) i_1 i_2 i_3 i_4 (t := t) (nn := nn) (a := (N.2.1 77 10).toInt) (sg := sg) (n9 := (N.2.1 77 44).toInt) (op := op) (A9 := B) (fun r97 M112 hG99 F98 p_100 p_101 p_102 p_103 p_104 p_105 p_106 p_107 p_108 p_109 p_110 p_111 => ?_)))
        have F113 := FR.c F0 F98 tg_376
        have b_114 := g_b hG99 (a := 77) (i := 7) (lo := 0) (hi := 500) rfl rfl
        have c_115 : M112.2.1 77 6 = (N.2.1 77 6) := (F_n F98 (show ¬ (77 = 77 ∧ (6 = 4 ∨ 6 = 5 ∨ 7 ≤ 6 ∧ 6 ≤ 10) ∨ 77 = 77 ∧ (6 = 44 ∨ 6 = 52) ∨ 101 ≤ 77 ∧ 77 ≤ 108) by decide) rfl)
        have t_116 : (M112.2.1 77 6).toInt = (N.2.1 77 6).toInt := congrArg Int32.toInt c_115
        have b_117 := g_b hG99 (a := 77) (i := 8) (lo := 0) (hi := 5) rfl rfl
        rcases (show r97.toInt = 0 ∨ r97.toInt = 1 by omega) with h118 | h118
        · skip
          have p_119 := p_111 (by omega)
          clear p_104 p_105 p_108 p_109 p_110 p_111
          have z_120 := i_5.trans p_119
          refine b_ine_f (pc := 44) rw_219_44 (A := r97.toInt) rfl (by omega) (to_c (pc := 47) rw_219_47 (x := (-1 : Int32)) rfl rfl (to_r0 (pc := 48) rw_219_48 ?_))
          have k_121 : (-1 : Int32).toInt = -1 := rfl
          have j_122 := (FA_f (tg_364 F98) g2)
          have j_123 := (WC_f (tg_365 F98) g3)
          have j_124 := (NJ_f (tg_366 F98) g4)
          have j_125 := (PS_f (tg_367 F98) g5)
          have j_126 := (KQ_f (tg_368 F98) g6)
          have c_127 : M112.2.1 77 1 = (N.2.1 77 1) := (F_n F98 (show ¬ (77 = 77 ∧ (1 = 4 ∨ 1 = 5 ∨ 7 ≤ 1 ∧ 1 ≤ 10) ∨ 77 = 77 ∧ (1 = 44 ∨ 1 = 52) ∨ 101 ≤ 77 ∧ 77 ≤ 108) by decide) rfl)
          have t_128 : (M112.2.1 77 1).toInt = (N.2.1 77 1).toInt := congrArg Int32.toInt c_127
          have c_129 : M112.2.1 77 42 = (N.2.1 77 42) := (F_n F98 (show ¬ (77 = 77 ∧ (42 = 4 ∨ 42 = 5 ∨ 7 ≤ 42 ∧ 42 ≤ 10) ∨ 77 = 77 ∧ (42 = 44 ∨ 42 = 52) ∨ 101 ≤ 77 ∧ 77 ≤ 108) by decide) rfl)
          have t_130 : (M112.2.1 77 42).toInt = (N.2.1 77 42).toInt := congrArg Int32.toInt c_129
          have c_131 : M112.2.1 77 43 = (N.2.1 77 43) := (F_n F98 (show ¬ (77 = 77 ∧ (43 = 4 ∨ 43 = 5 ∨ 7 ≤ 43 ∧ 43 ≤ 10) ∨ 77 = 77 ∧ (43 = 44 ∨ 43 = 52) ∨ 101 ≤ 77 ∧ 77 ≤ 108) by decide) rfl)
          have t_132 : (M112.2.1 77 43).toInt = (N.2.1 77 43).toInt := congrArg Int32.toInt c_131
          exact h (-1 : Int32) M112 hG99 F113 (by omega) j_122 j_123 j_124 j_125 j_126 (by omega) (by omega) (by omega) (by omega) (by omega) (by omega) (by omega) (fun _ => Or.inl ⟨_, _, z_120, rfl⟩) (fun _ => z_120)
        · skip
          have p_133 := p_104 (by omega)
          have p_134 := p_105 (by omega)
          have p_135 := p_108 (by omega)
          have p_136 := p_109 (by omega)
          have p_137 := p_110 (by omega)
          clear p_104 p_105 p_108 p_109 p_110 p_111
          have z_138 := WS_eq i_5 p_137
          refine b_ine_t (pc := 44) rw_219_44 (A := r97.toInt) rfl (by omega) ?_
          have j_139 := (FA_f (tg_364 F98) g2)
          have j_140 := (WC_f (tg_365 F98) g3)
          have j_141 := (NJ_f (tg_366 F98) g4)
          have j_142 := (PS_f (tg_367 F98) g5)
          have j_143 := (KQ_f (tg_368 F98) g6)
          have c_144 : M112.2.1 77 1 = (N.2.1 77 1) := (F_n F98 (show ¬ (77 = 77 ∧ (1 = 4 ∨ 1 = 5 ∨ 7 ≤ 1 ∧ 1 ≤ 10) ∨ 77 = 77 ∧ (1 = 44 ∨ 1 = 52) ∨ 101 ≤ 77 ∧ 77 ≤ 108) by decide) rfl)
          have t_145 : (M112.2.1 77 1).toInt = (N.2.1 77 1).toInt := congrArg Int32.toInt c_144
          have j_146 := (TR_f (tg_488 F98) g15)
          have j_147 := (W9_f (tg_489 F98) g16)
          have j_148 := (PLk_f (tg_490 F98) g17)
          have c_149 : M112.2.1 77 42 = (N.2.1 77 42) := (F_n F98 (show ¬ (77 = 77 ∧ (42 = 4 ∨ 42 = 5 ∨ 7 ≤ 42 ∧ 42 ≤ 10) ∨ 77 = 77 ∧ (42 = 44 ∨ 42 = 52) ∨ 101 ≤ 77 ∧ 77 ≤ 108) by decide) rfl)
          have t_150 : (M112.2.1 77 42).toInt = (N.2.1 77 42).toInt := congrArg Int32.toInt c_149
          have c_151 : M112.2.1 77 43 = (N.2.1 77 43) := (F_n F98 (show ¬ (77 = 77 ∧ (43 = 4 ∨ 43 = 5 ∨ 7 ≤ 43 ∧ 43 ≤ 10) ∨ 77 = 77 ∧ (43 = 44 ∨ 43 = 52) ∨ 101 ≤ 77 ∧ 77 ≤ 108) by decide) rfl)
          have t_152 : (M112.2.1 77 43).toInt = (N.2.1 77 43).toInt := congrArg Int32.toInt c_151
          exact ih M112 (u1) hG99 F113 (by omega) j_139 j_140 j_141 j_142 j_143 (p_106 (by omega)) (p_107 (by omega)) (by omega) (by omega) (by omega) (by omega) (by omega) p_136 j_146 j_147 j_148 (by omega) (by omega) (by omega) (by omega) z_138 (by omega)
set_option maxRecDepth 4000 in
set_option maxHeartbeats 0 in
theorem E_219 {X : mm_X} {d : Nat} {M : mm_M} {Q : Option Value → mm_M → Prop} {n : Int32} {t : Nat → Int} {nn : Int} {sg : x_S} (hX : g_X X) (hd : 5 ≤ d) (hG : g_G M) (q1 : (M.2.1 77 7).toInt ≤ (M.2.1 77 6).toInt) (q2 : FA M) (q3 : WC M) (q4 : NJ M) (q5 : PS M) (q6 : KQ M) (q7 : 0 ≤ n.toInt ∧ n.toInt ≤ (M.2.1 77 1).toInt → n.toInt = nn) (q8 : TR M t nn) (q9 : W9 M) (q10 : PLk M sg) (h : ∀ (r : Int32) (M1 : mm_M), g_G M1 → FR md_wk M M1 → ((M1.2.1 77 7).toInt ≤ (M1.2.1 77 6).toInt) → FA M1 → WC M1 → NJ M1 → PS M1 → KQ M1 → (n.toInt < 0 ∨ (M.2.1 77 1).toInt < n.toInt → (M1.2.1 77 1).toInt = (M.2.1 77 1).toInt) → (0 ≤ n.toInt ∧ n.toInt ≤ (M.2.1 77 1).toInt → (M1.2.1 77 1).toInt = 0) → (0 ≤ r.toInt → (M1.2.1 77 4).toInt = 0 ∧ (M1.2.1 77 5).toInt = -1) → (n.toInt < 0 ∨ (M.2.1 77 1).toInt < n.toInt → (M1.2.1 77 4).toInt = (M.2.1 77 4).toInt ∧ (M1.2.1 77 5).toInt = (M.2.1 77 5).toInt) → (n.toInt < 0 ∨ (M.2.1 77 1).toInt < n.toInt → r.toInt = -2) → (-2 ≤ r.toInt) → (r.toInt < 0 → (M1.2.1 77 42).toInt = (M.2.1 77 42).toInt ∧ (M1.2.1 77 43).toInt = (M.2.1 77 43).toInt) → ((0 ≤ n.toInt ∧ n.toInt ≤ (M.2.1 77 1).toInt → WAN (x_ww t nn sg 0 0 [] x_A0 (x_sk t nn 0)) r.toInt (M1.2.1 77 43).toInt (M1.2.1 77 42).toInt)) → ((r.toInt = -1 → x_ww t nn sg 0 0 [] x_A0 (x_sk t nn 0) = Sum.inl ((M1.2.1 77 4).toInt, (M1.2.1 77 5).toInt))) → Q (some (.int r)) M1) : mm_T X d 218 0 [.ref 77, .int n] [] M Q := by
  have F0 : FR md_wk M M := FR.rf
  have b_153 := g_b hG (a := 77) (i := 7) (lo := 0) (hi := 500) rfl rfl
  have b_154 := g_b hG (a := 77) (i := 6) (lo := 0) (hi := 500) rfl rfl
  have b_155 := g_b hG (a := 77) (i := 1) (lo := 0) (hi := 500) rfl rfl
  have b_156 := g_b hG (a := 77) (i := 43) (lo := 0) (hi := 3000) rfl rfl
  refine to_an (pc := 0) rw_219_0 rfl (to_c (pc := 1) rw_219_1 (x := (0 : Int32)) rfl rfl (s_pI (pc := 2) rw_219_2 hG rfl (fun M158 W157 => ?_)))
  have hG159 := g_wf hG W157 rfl rfl (by decide)
  have F160 := FR.w F0 W157 (show 77 = 77 ∧ (1 ≤ 2 ∧ 2 ≤ 2 ∨ 4 ≤ 2 ∧ 2 ≤ 10 ∨ 42 ≤ 2 ∧ 2 ≤ 44 ∨ 2 = 52) ∨ 94 ≤ 77 ∧ 77 ≤ 111 by decide)
  refine to_an (pc := 5) rw_219_5 rfl (to_in (pc := 6) rw_219_6 rfl (s_v (pc := 7) rw_219_7 (dp0 hd (by decide)) (ls0 := [.ref 77, .int n]) rfl (Nat.le_of_ble_eq_true rfl) (Nat.le_of_ble_eq_true rfl) rfl (to_rc rfl rfl rfl (g_o hG159 rfl)) rfl ?_))
  have c_161 : M158.2.1 77 1 = (M.2.1 77 1) := (W_n W157 (by decide) rfl)
  have t_162 : (M158.2.1 77 1).toInt = (M.2.1 77 1).toInt := congrArg Int32.toInt c_161
  have c_163 : M158.2.1 77 4 = (M.2.1 77 4) := (W_n W157 (by decide) rfl)
  have t_164 : (M158.2.1 77 4).toInt = (M.2.1 77 4).toInt := congrArg Int32.toInt c_163
  have c_165 : M158.2.1 77 5 = (M.2.1 77 5) := (W_n W157 (by decide) rfl)
  have t_166 : (M158.2.1 77 5).toInt = (M.2.1 77 5).toInt := congrArg Int32.toInt c_165
  have c_167 : M158.2.1 77 7 = (M.2.1 77 7) := (W_n W157 (by decide) rfl)
  have t_168 : (M158.2.1 77 7).toInt = (M.2.1 77 7).toInt := congrArg Int32.toInt c_167
  have c_169 : M158.2.1 77 6 = (M.2.1 77 6) := (W_n W157 (by decide) rfl)
  have t_170 : (M158.2.1 77 6).toInt = (M.2.1 77 6).toInt := congrArg Int32.toInt c_169
  have j_171 := (TR_f (fun a i z => W_n W157 (tg_88 a i z) rfl) q8)
  have j_172 := (W9_f (fun a i z => W_n W157 (tg_89 a i z) rfl) q9)
  refine E_163 hX (dp1 hd (by decide)) hG159 (by omega) (by omega) j_171 j_172 (n := n) (fun r173 M184 hG175 F174 p_176 p_177 p_178 p_179 p_180 p_181 p_182 p_183 => ?_)
  have F185 := FR.c F160 F174 tg_378
  have b_186 := g_b hG175 (a := 77) (i := 7) (lo := 0) (hi := 500) rfl rfl
  have b_187 := g_b hG175 (a := 77) (i := 6) (lo := 0) (hi := 500) rfl rfl
  have b_188 := g_b hG175 (a := 77) (i := 1) (lo := 0) (hi := 500) rfl rfl
  rcases (show r173.toInt = 0 ∨ r173.toInt = 1 by omega) with h189 | h189
  · skip
    have p_190 := p_182 (by omega)
    clear p_181 p_182 p_183
    refine b_ine_f (pc := 10) rw_219_10 (A := r173.toInt) rfl (by omega) (to_c (pc := 13) rw_219_13 (x := (-2 : Int32)) rfl rfl (to_r0 (pc := 15) rw_219_15 ?_))
    have k_191 : (-2 : Int32).toInt = -2 := rfl
    have j_192 := (FA_f (tg_328 F174) (FA_f (fun a i z => W_n W157 (tg_94 a i z) rfl) q2))
    have j_193 := (WC_f (tg_330 F174) (WC_f (fun a i z => W_n W157 (by /-r77,2-/ omega) rfl) q3))
    have j_194 := (NJ_f (tg_332 F174) (NJ_f (fun a i z => W_n W157 (by /-r77,2-/ omega) rfl) q4))
    have j_195 := (PS_f (tg_334 F174) (PS_f (fun a i z => W_n W157 (tg_348 a i z) rfl) q5))
    have j_196 := (KQ_f (tg_336 F174) (KQ_f (fun a i z => W_n W157 (by /-r77,2-/ omega) rfl) q6))
    have c_197 : M184.2.1 77 42 = (M.2.1 77 42) := (F_n F174 (show ¬ (77 = 77 ∧ (42 = 1 ∨ 4 ≤ 42 ∧ 42 ≤ 10)) by decide) (W_n W157 (by decide) rfl))
    have t_198 : (M184.2.1 77 42).toInt = (M.2.1 77 42).toInt := congrArg Int32.toInt c_197
    have c_199 : M184.2.1 77 43 = (M.2.1 77 43) := (F_n F174 (show ¬ (77 = 77 ∧ (43 = 1 ∨ 4 ≤ 43 ∧ 43 ≤ 10)) by decide) (W_n W157 (by decide) rfl))
    have t_200 : (M184.2.1 77 43).toInt = (M.2.1 77 43).toInt := congrArg Int32.toInt c_199
    exact h (-2 : Int32) M184 hG175 F185 (by omega) j_192 j_193 j_194 j_195 j_196 (by omega) (by omega) (by omega) (by omega) (by omega) (by omega) (by omega) (fun z => by exfalso; omega) (fun z => by exfalso; omega)
  · skip
    have p_201 := p_181 (by omega)
    have p_202 := p_183 (by omega)
    clear p_181 p_182 p_183
    have b_203 := g_b hG175 (a := 77) (i := 10) (lo := 0) (hi := 500) rfl rfl
    have z_204 := p_202.2
    refine b_ine_t (pc := 10) rw_219_10 (A := r173.toInt) rfl (by omega) (to_an (pc := 16) rw_219_16 rfl (to_c (pc := 17) rw_219_17 (x := (0 : Int32)) rfl rfl (s_pI (pc := 18) rw_219_18 hG175 rfl (fun M206 W205 => ?_))))
    have hG207 := g_w hG175 W205 (A := 0) rfl (lo := 0) (hi := 40) rfl rfl (by omega) (by decide)
    have F208 := FR.w F185 W205 (show 77 = 77 ∧ (1 ≤ 44 ∧ 44 ≤ 2 ∨ 4 ≤ 44 ∧ 44 ≤ 10 ∨ 42 ≤ 44 ∧ 44 ≤ 44 ∨ 44 = 52) ∨ 94 ≤ 77 ∧ 77 ≤ 111 by decide)
    refine to_an (pc := 21) rw_219_21 rfl (to_c (pc := 22) rw_219_22 (x := (0 : Int32)) rfl rfl (s_pI (pc := 23) rw_219_23 hG207 rfl (fun M210 W209 => ?_)))
    have hG211 := g_w hG207 W209 (A := 0) rfl (lo := 0) (hi := 5) rfl rfl (by omega) (by decide)
    have F212 := FR.w F208 W209 (show 77 = 77 ∧ (1 ≤ 52 ∧ 52 ≤ 2 ∨ 4 ≤ 52 ∧ 52 ≤ 10 ∨ 42 ≤ 52 ∧ 52 ≤ 44 ∨ 52 = 52) ∨ 94 ≤ 77 ∧ 77 ≤ 111 by decide)
    have c_213 : M210.2.1 77 44 = (0 : Int32) := (W_n W209 (by decide) (W_e W205))
    have k_214 : (0 : Int32).toInt = 0 := rfl
    have t_215 : (M210.2.1 77 44).toInt = (0 : Int32).toInt := congrArg Int32.toInt c_213
    have c_216 : M210.2.1 77 52 = (0 : Int32) := (W_e W209)
    have t_217 : (M210.2.1 77 52).toInt = (0 : Int32).toInt := congrArg Int32.toInt c_216
    have j_218 : AB M210 := AB_0 (by omega)
    have j_219 : ST M210 := ST_0 (by omega) (by omega)
    have c_220 : M210.2.1 77 7 = (M184.2.1 77 7) := (W_n W209 (by decide) (W_n W205 (by decide) rfl))
    have t_221 : (M210.2.1 77 7).toInt = (M184.2.1 77 7).toInt := congrArg Int32.toInt c_220
    have c_222 : M210.2.1 77 6 = (M184.2.1 77 6) := (W_n W209 (by decide) (W_n W205 (by decide) rfl))
    have t_223 : (M210.2.1 77 6).toInt = (M184.2.1 77 6).toInt := congrArg Int32.toInt c_222
    have j_224 := (FA_f (fun a i z => W_n W209 (tg_383 a i z) rfl) (FA_f (fun a i z => W_n W205 (tg_384 a i z) rfl) (FA_f (tg_328 F174) (FA_f (fun a i z => W_n W157 (tg_94 a i z) rfl) q2))))
    have j_225 := (WC_f (fun a i z => W_n W209 (by /-r77,52-/ omega) rfl) (WC_f (fun a i z => W_n W205 (by /-r77,44-/ omega) rfl) (WC_f (tg_330 F174) (WC_f (fun a i z => W_n W157 (by /-r77,2-/ omega) rfl) q3))))
    have j_226 := (NJ_f (fun a i z => W_n W209 (by /-r77,52-/ omega) rfl) (NJ_f (fun a i z => W_n W205 (by /-r77,44-/ omega) rfl) (NJ_f (tg_332 F174) (NJ_f (fun a i z => W_n W157 (by /-r77,2-/ omega) rfl) q4))))
    have j_227 := (PS_f (fun a i z => W_n W209 (tg_385 a i z) rfl) (PS_f (fun a i z => W_n W205 (tg_386 a i z) rfl) (PS_f (tg_334 F174) (PS_f (fun a i z => W_n W157 (tg_348 a i z) rfl) q5))))
    have j_228 := (KQ_f (fun a i z => W_n W209 (by /-r77,52-/ omega) rfl) (KQ_f (fun a i z => W_n W205 (by /-r77,44-/ omega) rfl) (KQ_f (tg_336 F174) (KQ_f (fun a i z => W_n W157 (by /-r77,2-/ omega) rfl) q6))))
    have c_229 : M210.2.1 77 1 = (M184.2.1 77 1) := (W_n W209 (by decide) (W_n W205 (by decide) rfl))
    have t_230 : (M210.2.1 77 1).toInt = (M184.2.1 77 1).toInt := congrArg Int32.toInt c_229
    have c_231 : M210.2.1 77 4 = (M184.2.1 77 4) := (W_n W209 (by decide) (W_n W205 (by decide) rfl))
    have t_232 : (M210.2.1 77 4).toInt = (M184.2.1 77 4).toInt := congrArg Int32.toInt c_231
    have c_233 : M210.2.1 77 5 = (M184.2.1 77 5) := (W_n W209 (by decide) (W_n W205 (by decide) rfl))
    have t_234 : (M210.2.1 77 5).toInt = (M184.2.1 77 5).toInt := congrArg Int32.toInt c_233
    have j_235 := (RS_f (fun a i z => W_n W209 (tg_196 a i z) rfl) (RS_f (fun a i z => W_n W205 (tg_188 a i z) rfl) p_202.1))
    have j_236 := (TR_f (fun a i z => W_n W209 (tg_198 a i z) rfl) (TR_f (fun a i z => W_n W205 (tg_190 a i z) rfl) (TR_f (tg_73 F174) j_171)))
    have j_237 := (W9_f (fun a i z => W_n W209 (tg_200 a i z) rfl) (W9_f (fun a i z => W_n W205 (tg_192 a i z) rfl) (W9_f (tg_75 F174) j_172)))
    have j_238 := (PLk_f (fun a i z => W_n W209 (tg_491 a i z) rfl) (PLk_f (fun a i z => W_n W205 (tg_194 a i z) rfl) (PLk_f (tg_470 F174) (PLk_f (fun a i z => W_n W157 (tg_91 a i z) rfl) q10))))
    have c_239 : M210.2.1 77 42 = (M.2.1 77 42) := (W_n W209 (by decide) (W_n W205 (by decide) (F_n F174 (show ¬ (77 = 77 ∧ (42 = 1 ∨ 4 ≤ 42 ∧ 42 ≤ 10)) by decide) (W_n W157 (by decide) rfl))))
    have t_240 : (M210.2.1 77 42).toInt = (M.2.1 77 42).toInt := congrArg Int32.toInt c_239
    have c_241 : M210.2.1 77 43 = (M.2.1 77 43) := (W_n W209 (by decide) (W_n W205 (by decide) (F_n F174 (show ¬ (77 = 77 ∧ (43 = 1 ∨ 4 ≤ 43 ∧ 43 ≤ 10)) by decide) (W_n W157 (by decide) rfl))))
    have t_242 : (M210.2.1 77 43).toInt = (M.2.1 77 43).toInt := congrArg Int32.toInt c_241
    have c_243 : M210.2.1 77 10 = (M184.2.1 77 10) := (W_n W209 (by decide) (W_n W205 (by decide) rfl))
    have t_244 : (M210.2.1 77 10).toInt = (M184.2.1 77 10).toInt := congrArg Int32.toInt c_243
    have c_245 : M210.2.1 77 8 = (M184.2.1 77 8) := (W_n W209 (by decide) (W_n W205 (by decide) rfl))
    have b_246 := g_b hG175 (a := 77) (i := 8) (lo := 0) (hi := 5) rfl rfl
    have t_247 : (M210.2.1 77 8).toInt = (M184.2.1 77 8).toInt := congrArg Int32.toInt c_245
    exact (U_219_0 (n := n) (t := t) (nn := nn) (sg := sg) hX hd q1 q2 q3 q4 q5 q6 q7 q8 q9 q10 h ((6 * (500 - (M210.2.1 77 7).toInt) + (M210.2.1 77 8).toInt).toNat + 1)) M210 (.int n) hG211 F212 (by omega) j_224 j_225 j_226 j_227 j_228 j_218 j_219 (by omega) (by omega) (by omega) (by omega) (by omega) j_235 j_236 j_237 j_238 (by omega) (by omega) (by omega) (by omega) (WS_0 (by omega) (by omega) (by omega) rfl) (by omega)
