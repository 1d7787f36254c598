theorem tg_472 {M M1 : mm_M} (F : FR (fun a i : Nat => a = 77 ∧ (i = 4 ∨ i = 5 ∨ 7 ≤ i ∧ i ≤ 10) ∨ a = 77 ∧ (i = 44 ∨ i = 52) ∨ 101 ≤ a ∧ a ≤ 108) M M1) : ∀ a i : Nat, a = 78 → M1.2.1 a i = M.2.1 a i := fun a i z => F_n F (show ¬ (a = 77 ∧ (i = 4 ∨ i = 5 ∨ 7 ≤ i ∧ i ≤ 10) ∨ a = 77 ∧ (i = 44 ∨ i = 52) ∨ 101 ≤ a ∧ a ≤ 108) by omega) rfl
theorem tg_473 {M M1 : mm_M} (F : FR (fun a i : Nat => a = 77 ∧ (i = 4 ∨ i = 5 ∨ 7 ≤ i ∧ i ≤ 10) ∨ a = 77 ∧ (i = 44 ∨ i = 52) ∨ 101 ≤ a ∧ a ≤ 108) M M1) : ∀ a i : Nat, a = 79 → M1.2.1 a i = M.2.1 a i := fun a i z => F_n F (show ¬ (a = 77 ∧ (i = 4 ∨ i = 5 ∨ 7 ≤ i ∧ i ≤ 10) ∨ a = 77 ∧ (i = 44 ∨ i = 52) ∨ 101 ≤ a ∧ a ≤ 108) by omega) rfl
theorem tg_474 {M M1 : mm_M} (F : FR (fun a i : Nat => a = 77 ∧ (i = 4 ∨ i = 5 ∨ 7 ≤ i ∧ i ≤ 10) ∨ a = 77 ∧ (i = 44 ∨ i = 52) ∨ 101 ≤ a ∧ a ≤ 108) M M1) : ∀ a i : Nat, (a = 77 ∧ 11 ≤ i ∧ i ≤ 13 ∨ 80 ≤ a ∧ a ≤ 84 ∧ i < 8 ∨ 85 ≤ a ∧ a ≤ 86 ∧ i < 12) → M1.2.1 a i = M.2.1 a i := fun a i z => F_n F (show ¬ (a = 77 ∧ (i = 4 ∨ i = 5 ∨ 7 ≤ i ∧ i ≤ 10) ∨ a = 77 ∧ (i = 44 ∨ i = 52) ∨ 101 ≤ a ∧ a ≤ 108) by omega) rfl
theorem tg_475 {M M1 : mm_M} (F : FR (fun a i : Nat => a = 77 ∧ (i = 4 ∨ i = 5 ∨ 7 ≤ i ∧ i ≤ 10) ∨ a = 77 ∧ (i = 44 ∨ i = 52) ∨ 101 ≤ a ∧ a ≤ 108) M M1) : ∀ a i : Nat, 88 ≤ a ∧ a ≤ 89 → M1.2.1 a i = M.2.1 a i := fun a i z => F_n F (show ¬ (a = 77 ∧ (i = 4 ∨ i = 5 ∨ 7 ≤ i ∧ i ≤ 10) ∨ a = 77 ∧ (i = 44 ∨ i = 52) ∨ 101 ≤ a ∧ a ≤ 108) by omega) rfl
theorem tg_476 {M M1 : mm_M} (F : FR (fun a i : Nat => a = 77 ∧ (i = 4 ∨ i = 5 ∨ 7 ≤ i ∧ i ≤ 10) ∨ a = 77 ∧ (i = 44 ∨ i = 52) ∨ 101 ≤ a ∧ a ≤ 108) M M1) : ∀ a i : Nat, (90 ≤ a ∧ a ≤ 93) → M1.2.1 a i = M.2.1 a i := fun a i z => F_n F (show ¬ (a = 77 ∧ (i = 4 ∨ i = 5 ∨ 7 ≤ i ∧ i ≤ 10) ∨ a = 77 ∧ (i = 44 ∨ i = 52) ∨ 101 ≤ a ∧ a ≤ 108) by omega) rfl
theorem tg_477 {M M1 : mm_M} (F : FR (fun a i : Nat => a = 77 ∧ (i = 1 ∨ 4 ≤ i ∧ i ≤ 10)) M M1) : ∀ a i : Nat, (a = 77 ∧ 11 ≤ i ∧ i ≤ 13 ∨ 80 ≤ a ∧ a ≤ 84 ∧ i < 8 ∨ 85 ≤ a ∧ a ≤ 86 ∧ i < 12) → M1.2.1 a i = M.2.1 a i := fun a i z => F_n F (show ¬ (a = 77 ∧ (i = 1 ∨ 4 ≤ i ∧ i ≤ 10)) by omega) rfl
theorem tg_478 {M M1 : mm_M} (F : FR (fun a i : Nat => a = 77 ∧ (i = 1 ∨ 4 ≤ i ∧ i ≤ 10)) M M1) : ∀ a i : Nat, 88 ≤ a ∧ a ≤ 89 → M1.2.1 a i = M.2.1 a i := fun a i z => F_n F (show ¬ (a = 77 ∧ (i = 1 ∨ 4 ≤ i ∧ i ≤ 10)) by omega) rfl
theorem tg_479 {M M1 : mm_M} (F : FR (fun a i : Nat => a = 77 ∧ (i = 1 ∨ 4 ≤ i ∧ i ≤ 10)) M M1) : ∀ a i : Nat, (90 ≤ a ∧ a ≤ 93) → M1.2.1 a i = M.2.1 a i := fun a i z => F_n F (show ¬ (a = 77 ∧ (i = 1 ∨ 4 ≤ i ∧ i ≤ 10)) by omega) rfl
theorem tg_480 : ∀ a i : Nat, (a = 77 ∧ 11 ≤ i ∧ i ≤ 13 ∨ 80 ≤ a ∧ a ≤ 84 ∧ i < 8 ∨ 85 ≤ a ∧ a ≤ 86 ∧ i < 12) → ¬ (a = 77 ∧ i = 52) := fun a i z => by omega
theorem tg_481 : ∀ a i : Nat, 88 ≤ a ∧ a ≤ 89 → ¬ (a = 77 ∧ i = 52) := fun a i z => by omega
theorem tg_482 : ∀ a i : Nat, 88 ≤ a ∧ a ≤ 89 → ¬ (a = 77 ∧ i = 44) := fun a i z => by omega
theorem tg_483 : ∀ a i : Nat, (90 ≤ a ∧ a ≤ 93) → ¬ (a = 77 ∧ i = 52) := fun a i z => by omega
theorem tg_484 : ∀ a i : Nat, (90 ≤ a ∧ a ≤ 93) → ¬ (a = 77 ∧ i = 44) := fun a i z => by omega
set_option maxRecDepth 4000 in
set_option maxHeartbeats 0 in
theorem U_219_0 {X : mm_X} {d : Nat} {M : mm_M} {Q : Option Value → mm_M → Prop} {n : Int32} {t : Nat → Int} {nn : Int} {sg : x_S} {NN : x_N} {nz : Int} {ca : Int} {P9 : x_P} {ov : Int32} (hX : g_X X) (hd : 5 ≤ d) (q1 : (M.2.1 77 7).toInt ≤ (M.2.1 77 6).toInt) (q2 : FA M) (q3 : WC M) (q4 : NJ M) (q5 : PS M) (q6 : KQ M) (q7 : 0 ≤ n.toInt ∧ n.toInt ≤ (M.2.1 77 1).toInt → n.toInt = nn) (q8 : TR M t nn) (q9 : W9 M) (q10 : M.2.1 77 41 = ov) (q11 : PKr M P9) (q12 : x_pg P9 ca ca) (q13 : x_G8 sg ∧ x_v8 sg NN nz) (q14 : x_vn sg ca NN nz) (q15 : ca ≤ 30) (q16 : (M.2.1 77 29).toInt = nz) (q17 : (M.2.1 77 28).toInt = ca) (q18 : CWk M sg) (q19 : PLk M sg) (q20 : W8 M) (q21 : NTr M NN nz) (h : ∀ (r : Int32) (M1 : mm_M), g_G M1 → FR md_wk M M1 → ((M1.2.1 77 7).toInt ≤ (M1.2.1 77 6).toInt) → FA M1 → WC M1 → NJ M1 → PS M1 → KQ M1 → (n.toInt < 0 ∨ (M.2.1 77 1).toInt < n.toInt → (M1.2.1 77 1).toInt = (M.2.1 77 1).toInt) → (0 ≤ n.toInt ∧ n.toInt ≤ (M.2.1 77 1).toInt → (M1.2.1 77 1).toInt = 0) → (n.toInt < 0 ∨ (M.2.1 77 1).toInt < n.toInt → r.toInt = -2) → (-2 ≤ r.toInt) → ((r.toInt < 0 → PKr M1 P9)) → ((0 ≤ n.toInt ∧ n.toInt ≤ (M.2.1 77 1).toInt → ∃ P1 : x_P, PKr M1 P1 ∧ x_pg P1 ca ca ∧ WAN (fun A => x_U (x_DD t nn sg (x_kn sg NN nz.toNat).2.2.2) (x_dt (x_kn sg NN nz.toNat) ov sg.1) A) P9 (x_ww t nn sg 0 0 [] x_A0 (x_sk t nn 0)) r.toInt (M1.2.1 77 43).toInt ((M1.2.1 77 42).toInt, P1))) → Q (some (.int r)) M1) : ∀ nn9 : Nat, (∀ (N : mm_M) (u1 : Value), g_G N → FR md_wk M N → ((N.2.1 77 7).toInt ≤ (N.2.1 77 6).toInt) → (FA N) → (WC N) → (NJ N) → (PS N) → (KQ N) → (AB N) → (ST N) → ((N.2.1 77 1).toInt = 0) → (0 ≤ n.toInt) → (n.toInt ≤ (M.2.1 77 1).toInt) → (RS N t nn) → (TR N t nn) → (W9 N) → (0 ≤ nn) → (nn ≤ 500) → (N.2.1 77 41 = ov) → (PKr N P9) → (CWk N sg) → (PLk N sg) → (W8 N) → (NTr N NN nz) → ((N.2.1 77 28).toInt = ca) → ((N.2.1 77 29).toInt = nz) → (WS ((x_DD t nn sg (x_kn sg NN nz.toNat).2.2.2), (x_kn sg NN nz.toNat).2.2.2, sg.2.2.1) t nn sg (x_ww t nn sg 0 0 [] x_A0 (x_sk t nn 0)) N) → 6 * (500 - (N.2.1 77 7).toInt) + (N.2.1 77 8).toInt < (nn9 : Int) → mm_T X d 218 26 [.ref 77, u1] [] N Q) := by
  intro nn9
  induction nn9 with
  | zero =>
    intro N u1 hG F0 g1 g2 g3 g4 g5 g6 g7 g8 g9 g10 g11 g12 g13 g14 g15 g16 g17 g18 g19 g20 g21 g22 g23 g24 g25 hm
    have b_1 := g_b hG (a := 77) (i := 7) (lo := 0) (hi := 500) rfl rfl
    have b_2 := g_b hG (a := 77) (i := 8) (lo := 0) (hi := 5) rfl rfl
    have b_3 := g_b hG (a := 77) (i := 6) (lo := 0) (hi := 500) rfl rfl
    have b_4 := g_b hG (a := 77) (i := 1) (lo := 0) (hi := 500) rfl rfl
    have b_5 := g_b hG (a := 77) (i := 28) (lo := 0) (hi := 30) rfl rfl
    have b_6 := g_b hG (a := 77) (i := 29) (lo := 0) (hi := 150) rfl rfl
    exfalso; omega
  | succ nn9 ih =>
    intro N u1 hG F0 g1 g2 g3 g4 g5 g6 g7 g8 g9 g10 g11 g12 g13 g14 g15 g16 g17 g18 g19 g20 g21 g22 g23 g24 g25 hm
    have b_7 := g_b hG (a := 77) (i := 7) (lo := 0) (hi := 500) rfl rfl
    have b_8 := g_b hG (a := 77) (i := 8) (lo := 0) (hi := 5) rfl rfl
    have b_9 := g_b hG (a := 77) (i := 6) (lo := 0) (hi := 500) rfl rfl
    have b_10 := g_b hG (a := 77) (i := 1) (lo := 0) (hi := 500) rfl rfl
    have b_11 := g_b hG (a := 77) (i := 28) (lo := 0) (hi := 30) rfl rfl
    have b_12 := g_b hG (a := 77) (i := 29) (lo := 0) (hi := 150) rfl rfl
    have b_13 := g_b hG (a := 77) (i := 43) (lo := 0) (hi := 3000) rfl rfl
    have z_14 := g20.2.1
    have z_15 := g20.2.2.1
    have z_16 := g20.2.2.2.1
    have z_17 := g20.1
    have z_18 := z_17.1
    have z_19 := z_17.2.1
    have z_20 := z_17.2.2.1
    have z_21 := z_17.2.2.2.1
    have z_22 := z_17.2.2.2.2.1
    have z_23 := z_17.2.2.2.2.2.1
    have b_24 := g_b hG (a := 77) (i := 11) (lo := 10) (hi := 60) rfl rfl
    have b_25 := g_b hG (a := 77) (i := 12) (lo := 0) (hi := 8) rfl rfl
    have b_26 := g_b hG (a := 77) (i := 13) (lo := 0) (hi := 12) rfl rfl
    obtain ⟨op, B, i_1, i_2, i_3, i_4, i_5⟩ := id g25
    have b_27 := g_b hG (a := 77) (i := 10) (lo := 0) (hi := 500) rfl rfl
    have z_28 := RS_k g12 (a := (N.2.1 77 10).toInt) (by omega)
    have b_29 := g_b hG (a := 77) (i := 44) (lo := 0) (hi := 40) rfl rfl
    have b_30 := g_b hG (a := 77) (i := 52) (lo := 0) (hi := 5) rfl rfl
    refine to_an (pc := 26) rw_219_26 rfl (tt_gI (pc := 27) rw_219_27 (g_o hG rfl) (v := (N.2.1 77 8)) rfl (b_ine (pc := 30) rw_219_30 (A := (N.2.1 77 8).toInt) rfl (fun h31 => ?_) (fun h31 => ?_)))
    · refine to_an (pc := 40) rw_219_40 rfl (s_v (pc := 41) rw_219_41 (dp0 hd (by decide)) (ls0 := [.ref 77, .null]) rfl (Nat.le_of_ble_eq_true rfl) (Nat.le_of_ble_eq_true rfl) rfl (to_rc rfl rfl rfl (g_o hG rfl)) rfl (D_215 hX (dp1 hd (by decide)) hG (by omega) g7 g8 g12 (by omega) (by omega) (by omega) g13 g14 g20 (by omega) (by omega) (by omega) i_1 i_2 i_3 i_4 (t := t) (nn := nn) (a := (N.2.1 77 10).toInt) (sg := sg) (C9 := (x_kn sg NN nz.toNat).2.2.2) (n9 := (N.2.1 77 44).toInt) (op := op) (A9 := B) (fun r32 M46 hG34 F33 p_35 p_36 p_37 p_38 p_39 p_40 p_41 p_42 p_43 p_44 p_45 => ?_)))
      have F47 := FR.c F0 F33 tg_404
      have b_48 := g_b hG34 (a := 77) (i := 7) (lo := 0) (hi := 500) rfl rfl
      have c_49 : M46.2.1 77 6 = (N.2.1 77 6) := (F_n F33 (show ¬ (77 = 77 ∧ (6 = 4 ∨ 6 = 5 ∨ 7 ≤ 6 ∧ 6 ≤ 10) ∨ 77 = 77 ∧ (6 = 44 ∨ 6 = 52) ∨ 101 ≤ 77 ∧ 77 ≤ 108) by decide) rfl)
      have t_50 : (M46.2.1 77 6).toInt = (N.2.1 77 6).toInt := congrArg Int32.toInt c_49
      have b_51 := g_b hG34 (a := 77) (i := 8) (lo := 0) (hi := 5) rfl rfl
      rcases (show r32.toInt = 0 ∨ r32.toInt = 1 by omega) with h52 | h52
      · skip
        have p_53 := p_45 (by omega)
        clear p_39 p_40 p_43 p_44 p_45
        have z_54 := i_5.trans p_53
        refine b_ine_f (pc := 44) rw_219_44 (A := r32.toInt) rfl (by omega) (to_c (pc := 47) rw_219_47 (x := (-1 : Int32)) rfl rfl (to_r0 (pc := 48) rw_219_48 ?_))
        have k_55 : (-1 : Int32).toInt = -1 := rfl
        have j_56 := (FA_f (tg_395 F33) g2)
        have j_57 := (WC_f (tg_396 F33) g3)
        have j_58 := (NJ_f (tg_397 F33) g4)
        have j_59 := (PS_f (tg_398 F33) g5)
        have j_60 := (KQ_f (tg_399 F33) g6)
        have c_61 : M46.2.1 77 1 = (N.2.1 77 1) := (F_n F33 (show ¬ (77 = 77 ∧ (1 = 4 ∨ 1 = 5 ∨ 7 ≤ 1 ∧ 1 ≤ 10) ∨ 77 = 77 ∧ (1 = 44 ∨ 1 = 52) ∨ 101 ≤ 77 ∧ 77 ≤ 108) by decide) rfl)
        have t_62 : (M46.2.1 77 1).toInt = (N.2.1 77 1).toInt := congrArg Int32.toInt c_61
        have j_63 := (PKr_f (fun a i z => F_n F33 (show ¬ (a = 77 ∧ (i = 4 ∨ i = 5 ∨ 7 ≤ i ∧ i ≤ 10) ∨ a = 77 ∧ (i = 44 ∨ i = 52) ∨ 101 ≤ a ∧ a ≤ 108) by omega) rfl) g18)
        exact h (-1 : Int32) M46 hG34 F47 (by omega) j_56 j_57 j_58 j_59 j_60 (by omega) (by omega) (by omega) (by omega) (fun _ => j_63) (fun _ => ⟨P9, j_63, q12, Or.inl ⟨_, _, z_54, rfl⟩⟩)
      · skip
        have p_64 := p_39 (by omega)
        have p_65 := p_40 (by omega)
        have p_66 := p_43 (by omega)
        have p_67 := p_44 (by omega)
        clear p_39 p_40 p_43 p_44 p_45
        have z_68 := WS_eq i_5 p_67
        refine b_ine_t (pc := 44) rw_219_44 (A := r32.toInt) rfl (by omega) ?_
        have j_69 := (FA_f (tg_395 F33) g2)
        have j_70 := (WC_f (tg_396 F33) g3)
        have j_71 := (NJ_f (tg_397 F33) g4)
        have j_72 := (PS_f (tg_398 F33) g5)
        have j_73 := (KQ_f (tg_399 F33) g6)
        have c_74 : M46.2.1 77 1 = (N.2.1 77 1) := (F_n F33 (show ¬ (77 = 77 ∧ (1 = 4 ∨ 1 = 5 ∨ 7 ≤ 1 ∧ 1 ≤ 10) ∨ 77 = 77 ∧ (1 = 44 ∨ 1 = 52) ∨ 101 ≤ 77 ∧ 77 ≤ 108) by decide) rfl)
        have t_75 : (M46.2.1 77 1).toInt = (N.2.1 77 1).toInt := congrArg Int32.toInt c_74
        have j_76 := (TR_f (tg_472 F33) g13)
        have j_77 := (W9_f (tg_473 F33) g14)
        have j_78 := (PKr_f (fun a i z => F_n F33 (show ¬ (a = 77 ∧ (i = 4 ∨ i = 5 ∨ 7 ≤ i ∧ i ≤ 10) ∨ a = 77 ∧ (i = 44 ∨ i = 52) ∨ 101 ≤ a ∧ a ≤ 108) by omega) rfl) g18)
        have j_79 := (CWk_f (fun k hk9 => F_nl F33 (show ¬ (87 = 77 ∧ (k = 4 ∨ k = 5 ∨ 7 ≤ k ∧ k ≤ 10) ∨ 87 = 77 ∧ (k = 44 ∨ k = 52) ∨ 101 ≤ 87 ∧ 87 ≤ 108) by omega) rfl) g19)
        have j_80 := (PLk_f (tg_474 F33) g20)
        have j_81 := (W8_f (tg_475 F33) g21)
        have j_82 := (NTr_f (tg_476 F33) g22)
        have c_83 : M46.2.1 77 28 = (N.2.1 77 28) := (F_n F33 (show ¬ (77 = 77 ∧ (28 = 4 ∨ 28 = 5 ∨ 7 ≤ 28 ∧ 28 ≤ 10) ∨ 77 = 77 ∧ (28 = 44 ∨ 28 = 52) ∨ 101 ≤ 77 ∧ 77 ≤ 108) by decide) rfl)
        have t_84 : (M46.2.1 77 28).toInt = (N.2.1 77 28).toInt := congrArg Int32.toInt c_83
        have c_85 : M46.2.1 77 29 = (N.2.1 77 29) := (F_n F33 (show ¬ (77 = 77 ∧ (29 = 4 ∨ 29 = 5 ∨ 7 ≤ 29 ∧ 29 ≤ 10) ∨ 77 = 77 ∧ (29 = 44 ∨ 29 = 52) ∨ 101 ≤ 77 ∧ 77 ≤ 108) by decide) rfl)
        have t_86 : (M46.2.1 77 29).toInt = (N.2.1 77 29).toInt := congrArg Int32.toInt c_85
        exact ih M46 (u1) hG34 F47 (by omega) j_69 j_70 j_71 j_72 j_73 (p_41 (by omega)) (p_42 (by omega)) (by omega) (by omega) (by omega) p_66 j_76 j_77 (by omega) (by omega) (((F_n F33 (show ¬ (77 = 77 ∧ (41 = 4 ∨ 41 = 5 ∨ 7 ≤ 41 ∧ 41 ≤ 10) ∨ 77 = 77 ∧ (41 = 44 ∨ 41 = 52) ∨ 101 ≤ 77 ∧ 77 ≤ 108) by decide) rfl)).trans g17) j_78 j_79 j_80 j_81 j_82 (by omega) (by omega) z_68 (by omega)
    · refine to_an (pc := 33) rw_219_33 rfl (tt_gI (pc := 34) rw_219_34 (g_o hG rfl) (v := (N.2.1 77 52)) rfl (b_ile (pc := 37) rw_219_37 (A := (N.2.1 77 52).toInt) rfl (fun h87 => ?_) (fun h87 => ?_)))
      · obtain ⟨B2, b_i1, b_i2⟩ := WS_e g25 (by omega) (by omega) (by omega) (by omega)
        refine to_an (pc := 49) rw_219_49 rfl (s_v (pc := 50) rw_219_50 (dp0 hd (by decide)) (ls0 := [.ref 77, .null, .null]) rfl (Nat.le_of_ble_eq_true rfl) (Nat.le_of_ble_eq_true rfl) rfl (to_rc rfl rfl rfl (g_o hG rfl)) rfl (D_218 hX (dp1 hd (by decide)) hG g4 g5 g7 g8 (by omega) (by omega) (by omega) b_i1 (gd_K g20.1 q13 q14 (by omega) (by omega) b_i2) g17 g18 q12 q14 (by omega) (by omega) (by omega) g19 g2 g20 g21 g22 (sg := sg) (NN := NN) (nz := nz) (ca := ca) (D8 := (x_DD t nn sg (x_kn sg NN nz.toNat).2.2.2)) (A9 := B2) (n9 := (N.2.1 77 44).toInt) (P9 := P9) (ov := ov) (fun r88 M95 hG90 F89 p_91 p_92 p_93 p_94 => ?_)))
        have F96 := FR.c F0 F89 tg_405
        obtain ⟨Pc, pc1, pc2, pc3⟩ := p_94
        refine to_r0 (pc := 53) rw_219_53 ?_
        have c_97 : M95.2.1 77 7 = (N.2.1 77 7) := (F_n F89 (show ¬ (77 = 77 ∧ (7 = 42 ∨ 7 = 43) ∨ 94 ≤ 77 ∧ 77 ≤ 98 ∨ 77 = 99 ∨ 77 = 100 ∨ 77 = 109 ∨ 77 = 110 ∨ 77 = 111) by decide) rfl)
        have t_98 : (M95.2.1 77 7).toInt = (N.2.1 77 7).toInt := congrArg Int32.toInt c_97
        have c_99 : M95.2.1 77 6 = (N.2.1 77 6) := (F_n F89 (show ¬ (77 = 77 ∧ (6 = 42 ∨ 6 = 43) ∨ 94 ≤ 77 ∧ 77 ≤ 98 ∨ 77 = 99 ∨ 77 = 100 ∨ 77 = 109 ∨ 77 = 110 ∨ 77 = 111) by decide) rfl)
        have t_100 : (M95.2.1 77 6).toInt = (N.2.1 77 6).toInt := congrArg Int32.toInt c_99
        have j_101 := (FA_f (tg_400 F89) g2)
        have j_102 := (WC_f (tg_401 F89) g3)
        have j_103 := (NJ_f (tg_402 F89) g4)
        have j_104 := (KQ_f (tg_403 F89) g6)
        have c_105 : M95.2.1 77 1 = (N.2.1 77 1) := (F_n F89 (show ¬ (77 = 77 ∧ (1 = 42 ∨ 1 = 43) ∨ 94 ≤ 77 ∧ 77 ≤ 98 ∨ 77 = 99 ∨ 77 = 100 ∨ 77 = 109 ∨ 77 = 110 ∨ 77 = 111) by decide) rfl)
        have t_106 : (M95.2.1 77 1).toInt = (N.2.1 77 1).toInt := congrArg Int32.toInt c_105
        exact h r88 M95 hG90 F96 (by omega) j_101 j_102 j_103 p_91 j_104 (by omega) (by omega) (by omega) (by omega) (fun z => by exfalso; omega) (fun _ => ⟨Pc, pc1, pc2, Or.inr ⟨_, _, b_i2, pc3⟩⟩)
      · refine to_an (pc := 40) rw_219_40 rfl (s_v (pc := 41) rw_219_41 (dp0 hd (by decide)) (ls0 := [.ref 77, .null]) rfl (Nat.le_of_ble_eq_true rfl) (Nat.le_of_ble_eq_true rfl) rfl (to_rc rfl rfl rfl (g_o hG rfl)) rfl (D_215 hX (dp1 hd (by decide)) hG (by omega) g7 g8 g12 (by omega) (by omega) (by omega) g13 g14 g20 (by omega) (by omega) (by omega) i_1 i_2 i_3 i_4 (t := t) (nn := nn) (a := (N.2.1 77 10).toInt) (sg := sg) (C9 := (x_kn sg NN nz.toNat).2.2.2) (n9 := (N.2.1 77 44).toInt) (op := op) (A9 := B) (fun r107 M121 hG109 F108 p_110 p_111 p_112 p_113 p_114 p_115 p_116 p_117 p_118 p_119 p_120 => ?_)))
        have F122 := FR.c F0 F108 tg_404
        have b_123 := g_b hG109 (a := 77) (i := 7) (lo := 0) (hi := 500) rfl rfl
        have c_124 : M121.2.1 77 6 = (N.2.1 77 6) := (F_n F108 (show ¬ (77 = 77 ∧ (6 = 4 ∨ 6 = 5 ∨ 7 ≤ 6 ∧ 6 ≤ 10) ∨ 77 = 77 ∧ (6 = 44 ∨ 6 = 52) ∨ 101 ≤ 77 ∧ 77 ≤ 108) by decide) rfl)
        have t_125 : (M121.2.1 77 6).toInt = (N.2.1 77 6).toInt := congrArg Int32.toInt c_124
        have b_126 := g_b hG109 (a := 77) (i := 8) (lo := 0) (hi := 5) rfl rfl
        rcases (show r107.toInt = 0 ∨ r107.toInt = 1 by omega) with h127 | h127
        · skip
          have p_128 := p_120 (by omega)
          clear p_114 p_115 p_118 p_119 p_120
          have z_129 := i_5.trans p_128
          refine b_ine_f (pc := 44) rw_219_44 (A := r107.toInt) rfl (by omega) (to_c (pc := 47) rw_219_47 (x := (-1 : Int32)) rfl rfl (to_r0 (pc := 48) rw_219_48 ?_))
          have k_130 : (-1 : Int32).toInt = -1 := rfl
          have j_131 := (FA_f (tg_395 F108) g2)
          have j_132 := (WC_f (tg_396 F108) g3)
          have j_133 := (NJ_f (tg_397 F108) g4)
          have j_134 := (PS_f (tg_398 F108) g5)
          have j_135 := (KQ_f (tg_399 F108) g6)
          have c_136 : M121.2.1 77 1 = (N.2.1 77 1) := (F_n F108 (show ¬ (77 = 77 ∧ (1 = 4 ∨ 1 = 5 ∨ 7 ≤ 1 ∧ 1 ≤ 10) ∨ 77 = 77 ∧ (1 = 44 ∨ 1 = 52) ∨ 101 ≤ 77 ∧ 77 ≤ 108) by decide) rfl)
          have t_137 : (M121.2.1 77 1).toInt = (N.2.1 77 1).toInt := congrArg Int32.toInt c_136
          have j_138 := (PKr_f (fun a i z => F_n F108 (show ¬ (a = 77 ∧ (i = 4 ∨ i = 5 ∨ 7 ≤ i ∧ i ≤ 10) ∨ a = 77 ∧ (i = 44 ∨ i = 52) ∨ 101 ≤ a ∧ a ≤ 108) by omega) rfl) g18)
          exact h (-1 : Int32) M121 hG109 F122 (by omega) j_131 j_132 j_133 j_134 j_135 (by omega) (by omega) (by omega) (by omega) (fun _ => j_138) (fun _ => ⟨P9, j_138, q12, Or.inl ⟨_, _, z_129, rfl⟩⟩)
        · skip
          have p_139 := p_114 (by omega)
          have p_140 := p_115 (by omega)
          have p_141 := p_118 (by omega)
          have p_142 := p_119 (by omega)
          clear p_114 p_115 p_118 p_119 p_120
          have z_143 := WS_eq i_5 p_142
          refine b_ine_t (pc := 44) rw_219_44 (A := r107.toInt) rfl (by omega) ?_
          have j_144 := (FA_f (tg_395 F108) g2)
          have j_145 := (WC_f (tg_396 F108) g3)
          have j_146 := (NJ_f (tg_397 F108) g4)
          have j_147 := (PS_f (tg_398 F108) g5)
          have j_148 := (KQ_f (tg_399 F108) g6)
          have c_149 : M121.2.1 77 1 = (N.2.1 77 1) := (F_n F108 (show ¬ (77 = 77 ∧ (1 = 4 ∨ 1 = 5 ∨ 7 ≤ 1 ∧ 1 ≤ 10) ∨ 77 = 77 ∧ (1 = 44 ∨ 1 = 52) ∨ 101 ≤ 77 ∧ 77 ≤ 108) by decide) rfl)
          have t_150 : (M121.2.1 77 1).toInt = (N.2.1 77 1).toInt := congrArg Int32.toInt c_149
          have j_151 := (TR_f (tg_472 F108) g13)
          have j_152 := (W9_f (tg_473 F108) g14)
          have j_153 := (PKr_f (fun a i z => F_n F108 (show ¬ (a = 77 ∧ (i = 4 ∨ i = 5 ∨ 7 ≤ i ∧ i ≤ 10) ∨ a = 77 ∧ (i = 44 ∨ i = 52) ∨ 101 ≤ a ∧ a ≤ 108) by omega) rfl) g18)
          have j_154 := (CWk_f (fun k hk9 => F_nl F108 (show ¬ (87 = 77 ∧ (k = 4 ∨ k = 5 ∨ 7 ≤ k ∧ k ≤ 10) ∨ 87 = 77 ∧ (k = 44 ∨ k = 52) ∨ 101 ≤ 87 ∧ 87 ≤ 108) by omega) rfl) g19)
          have j_155 := (PLk_f (tg_474 F108) g20)
          have j_156 := (W8_f (tg_475 F108) g21)
          have j_157 := (NTr_f (tg_476 F108) g22)
          have c_158 : M121.2.1 77 28 = (N.2.1 77 28) := (F_n F108 (show ¬ (77 = 77 ∧ (28 = 4 ∨ 28 = 5 ∨ 7 ≤ 28 ∧ 28 ≤ 10) ∨ 77 = 77 ∧ (28 = 44 ∨ 28 = 52) ∨ 101 ≤ 77 ∧ 77 ≤ 108) by decide) rfl)
          have t_159 : (M121.2.1 77 28).toInt = (N.2.1 77 28).toInt := congrArg Int32.toInt c_158
          have c_160 : M121.2.1 77 29 = (N.2.1 77 29) := (F_n F108 (show ¬ (77 = 77 ∧ (29 = 4 ∨ 29 = 5 ∨ 7 ≤ 29 ∧ 29 ≤ 10) ∨ 77 = 77 ∧ (29 = 44 ∨ 29 = 52) ∨ 101 ≤ 77 ∧ 77 ≤ 108) by decide) rfl)
          have t_161 : (M121.2.1 77 29).toInt = (N.2.1 77 29).toInt := congrArg Int32.toInt c_160
          exact ih M121 (u1) hG109 F122 (by omega) j_144 j_145 j_146 j_147 j_148 (p_116 (by omega)) (p_117 (by omega)) (by omega) (by omega) (by omega) p_141 j_151 j_152 (by omega) (by omega) (((F_n F108 (show ¬ (77 = 77 ∧ (41 = 4 ∨ 41 = 5 ∨ 7 ≤ 41 ∧ 41 ≤ 10) ∨ 77 = 77 ∧ (41 = 44 ∨ 41 = 52) ∨ 101 ≤ 77 ∧ 77 ≤ 108) by decide) rfl)).trans g17) j_153 j_154 j_155 j_156 j_157 (by omega) (by omega) z_143 (by omega)
set_option maxRecDepth 4000 in
set_option maxHeartbeats 0 in
theorem E_219 {X : mm_X} {d : Nat} {M : mm_M} {Q : Option Value → mm_M → Prop} {n : Int32} {t : Nat → Int} {nn : Int} {sg : x_S} {NN : x_N} {nz : Int} {ca : Int} {P9 : x_P} {ov : Int32} (hX : g_X X) (hd : 5 ≤ d) (hG : g_G M) (q1 : (M.2.1 77 7).toInt ≤ (M.2.1 77 6).toInt) (q2 : FA M) (q3 : WC M) (q4 : NJ M) (q5 : PS M) (q6 : KQ M) (q7 : 0 ≤ n.toInt ∧ n.toInt ≤ (M.2.1 77 1).toInt → n.toInt = nn) (q8 : TR M t nn) (q9 : W9 M) (q10 : M.2.1 77 41 = ov) (q11 : PKr M P9) (q12 : x_pg P9 ca ca) (q13 : x_G8 sg ∧ x_v8 sg NN nz) (q14 : x_vn sg ca NN nz) (q15 : ca ≤ 30) (q16 : (M.2.1 77 29).toInt = nz) (q17 : (M.2.1 77 28).toInt = ca) (q18 : CWk M sg) (q19 : PLk M sg) (q20 : W8 M) (q21 : NTr M NN nz) (h : ∀ (r : Int32) (M1 : mm_M), g_G M1 → FR md_wk M M1 → ((M1.2.1 77 7).toInt ≤ (M1.2.1 77 6).toInt) → FA M1 → WC M1 → NJ M1 → PS M1 → KQ M1 → (n.toInt < 0 ∨ (M.2.1 77 1).toInt < n.toInt → (M1.2.1 77 1).toInt = (M.2.1 77 1).toInt) → (0 ≤ n.toInt ∧ n.toInt ≤ (M.2.1 77 1).toInt → (M1.2.1 77 1).toInt = 0) → (n.toInt < 0 ∨ (M.2.1 77 1).toInt < n.toInt → r.toInt = -2) → (-2 ≤ r.toInt) → ((r.toInt < 0 → PKr M1 P9)) → ((0 ≤ n.toInt ∧ n.toInt ≤ (M.2.1 77 1).toInt → ∃ P1 : x_P, PKr M1 P1 ∧ x_pg P1 ca ca ∧ WAN (fun A => x_U (x_DD t nn sg (x_kn sg NN nz.toNat).2.2.2) (x_dt (x_kn sg NN nz.toNat) ov sg.1) A) P9 (x_ww t nn sg 0 0 [] x_A0 (x_sk t nn 0)) r.toInt (M1.2.1 77 43).toInt ((M1.2.1 77 42).toInt, P1))) → Q (some (.int r)) M1) : mm_T X d 218 0 [.ref 77, .int n] [] M Q := by
  have F0 : FR md_wk M M := FR.rf
  have b_162 := g_b hG (a := 77) (i := 7) (lo := 0) (hi := 500) rfl rfl
  have b_163 := g_b hG (a := 77) (i := 6) (lo := 0) (hi := 500) rfl rfl
  have b_164 := g_b hG (a := 77) (i := 1) (lo := 0) (hi := 500) rfl rfl
  have b_165 := g_b hG (a := 77) (i := 29) (lo := 0) (hi := 150) rfl rfl
  have b_166 := g_b hG (a := 77) (i := 28) (lo := 0) (hi := 30) rfl rfl
  have b_167 := g_b hG (a := 77) (i := 43) (lo := 0) (hi := 3000) rfl rfl
  have z_168 := q19.2.1
  have z_169 := q19.2.2.1
  have z_170 := q19.2.2.2.1
  have z_171 := q19.1
  have z_172 := z_171.1
  have z_173 := z_171.2.1
  have z_174 := z_171.2.2.1
  have z_175 := z_171.2.2.2.1
  have z_176 := z_171.2.2.2.2.1
  have z_177 := z_171.2.2.2.2.2.1
  have b_178 := g_b hG (a := 77) (i := 11) (lo := 10) (hi := 60) rfl rfl
  have b_179 := g_b hG (a := 77) (i := 12) (lo := 0) (hi := 8) rfl rfl
  have b_180 := g_b hG (a := 77) (i := 13) (lo := 0) (hi := 12) rfl rfl
  refine to_an (pc := 0) rw_219_0 rfl (to_c (pc := 1) rw_219_1 (x := (0 : Int32)) rfl rfl (s_pI (pc := 2) rw_219_2 hG rfl (fun M182 W181 => ?_)))
  have hG183 := g_wf hG W181 rfl rfl (by decide)
  have F184 := FR.w F0 W181 (show 77 = 77 ∧ (1 ≤ 2 ∧ 2 ≤ 2 ∨ 4 ≤ 2 ∧ 2 ≤ 10 ∨ 42 ≤ 2 ∧ 2 ≤ 44 ∨ 2 = 52) ∨ 94 ≤ 77 ∧ 77 ≤ 111 by decide)
  refine to_an (pc := 5) rw_219_5 rfl (to_in (pc := 6) rw_219_6 rfl (s_v (pc := 7) rw_219_7 (dp0 hd (by decide)) (ls0 := [.ref 77, .int n]) rfl (Nat.le_of_ble_eq_true rfl) (Nat.le_of_ble_eq_true rfl) rfl (to_rc rfl rfl rfl (g_o hG183 rfl)) rfl ?_))
  have c_185 : M182.2.1 77 1 = (M.2.1 77 1) := (W_n W181 (by decide) rfl)
  have t_186 : (M182.2.1 77 1).toInt = (M.2.1 77 1).toInt := congrArg Int32.toInt c_185
  have c_187 : M182.2.1 77 7 = (M.2.1 77 7) := (W_n W181 (by decide) rfl)
  have t_188 : (M182.2.1 77 7).toInt = (M.2.1 77 7).toInt := congrArg Int32.toInt c_187
  have c_189 : M182.2.1 77 6 = (M.2.1 77 6) := (W_n W181 (by decide) rfl)
  have t_190 : (M182.2.1 77 6).toInt = (M.2.1 77 6).toInt := congrArg Int32.toInt c_189
  have j_191 := (TR_f (fun a i z => W_n W181 (tg_88 a i z) rfl) q8)
  have j_192 := (W9_f (fun a i z => W_n W181 (tg_89 a i z) rfl) q9)
  refine E_163 hX (dp1 hd (by decide)) hG183 (by omega) (by omega) j_191 j_192 (n := n) (fun r193 M202 hG195 F194 p_196 p_197 p_198 p_199 p_200 p_201 => ?_)
  have F203 := FR.c F184 F194 tg_406
  have b_204 := g_b hG195 (a := 77) (i := 7) (lo := 0) (hi := 500) rfl rfl
  have b_205 := g_b hG195 (a := 77) (i := 6) (lo := 0) (hi := 500) rfl rfl
  have b_206 := g_b hG195 (a := 77) (i := 1) (lo := 0) (hi := 500) rfl rfl
  rcases (show r193.toInt = 0 ∨ r193.toInt = 1 by omega) with h207 | h207
  · skip
    clear p_201
    refine b_ine_f (pc := 10) rw_219_10 (A := r193.toInt) rfl (by omega) (to_c (pc := 13) rw_219_13 (x := (-2 : Int32)) rfl rfl (to_r0 (pc := 15) rw_219_15 ?_))
    have k_208 : (-2 : Int32).toInt = -2 := rfl
    have j_209 := (FA_f (tg_368 F194) (FA_f (fun a i z => W_n W181 (tg_94 a i z) rfl) q2))
    have j_210 := (WC_f (tg_370 F194) (WC_f (fun a i z => W_n W181 (by /-r77,2-/ omega) rfl) q3))
    have j_211 := (NJ_f (tg_372 F194) (NJ_f (fun a i z => W_n W181 (by /-r77,2-/ omega) rfl) q4))
    have j_212 := (PS_f (tg_374 F194) (PS_f (fun a i z => W_n W181 (tg_388 a i z) rfl) q5))
    have j_213 := (KQ_f (tg_376 F194) (KQ_f (fun a i z => W_n W181 (by /-r77,2-/ omega) rfl) q6))
    have j_214 := (PKr_f (fun a i z => F_n F194 (show ¬ (a = 77 ∧ (i = 1 ∨ 4 ≤ i ∧ i ≤ 10)) by omega) rfl) (PKr_f (fun a i z => W_n W181 (by /-r77,2-/ omega) rfl) q11))
    exact h (-2 : Int32) M202 hG195 F203 (by omega) j_209 j_210 j_211 j_212 j_213 (by omega) (by omega) (by omega) (by omega) (fun _ => j_214) (fun z => by exfalso; omega)
  · skip
    have p_215 := p_201 (by omega)
    clear p_201
    have b_216 := g_b hG195 (a := 77) (i := 10) (lo := 0) (hi := 500) rfl rfl
    have z_217 := p_215.2
    refine b_ine_t (pc := 10) rw_219_10 (A := r193.toInt) rfl (by omega) (to_an (pc := 16) rw_219_16 rfl (to_c (pc := 17) rw_219_17 (x := (0 : Int32)) rfl rfl (s_pI (pc := 18) rw_219_18 hG195 rfl (fun M219 W218 => ?_))))
    have hG220 := g_w hG195 W218 (A := 0) rfl (lo := 0) (hi := 40) rfl rfl (by omega) (by decide)
    have F221 := FR.w F203 W218 (show 77 = 77 ∧ (1 ≤ 44 ∧ 44 ≤ 2 ∨ 4 ≤ 44 ∧ 44 ≤ 10 ∨ 42 ≤ 44 ∧ 44 ≤ 44 ∨ 44 = 52) ∨ 94 ≤ 77 ∧ 77 ≤ 111 by decide)
    refine to_an (pc := 21) rw_219_21 rfl (to_c (pc := 22) rw_219_22 (x := (0 : Int32)) rfl rfl (s_pI (pc := 23) rw_219_23 hG220 rfl (fun M223 W222 => ?_)))
    have hG224 := g_w hG220 W222 (A := 0) rfl (lo := 0) (hi := 5) rfl rfl (by omega) (by decide)
    have F225 := FR.w F221 W222 (show 77 = 77 ∧ (1 ≤ 52 ∧ 52 ≤ 2 ∨ 4 ≤ 52 ∧ 52 ≤ 10 ∨ 42 ≤ 52 ∧ 52 ≤ 44 ∨ 52 = 52) ∨ 94 ≤ 77 ∧ 77 ≤ 111 by decide)
    have c_226 : M223.2.1 77 44 = (0 : Int32) := (W_n W222 (by decide) (W_e W218))
    have k_227 : (0 : Int32).toInt = 0 := rfl
    have t_228 : (M223.2.1 77 44).toInt = (0 : Int32).toInt := congrArg Int32.toInt c_226
    have c_229 : M223.2.1 77 52 = (0 : Int32) := (W_e W222)
    have t_230 : (M223.2.1 77 52).toInt = (0 : Int32).toInt := congrArg Int32.toInt c_229
    have j_231 : AB M223 := AB_0 (by omega)
    have j_232 : ST M223 := ST_0 (by omega) (by omega)
    have c_233 : M223.2.1 77 7 = (M202.2.1 77 7) := (W_n W222 (by decide) (W_n W218 (by decide) rfl))
    have t_234 : (M223.2.1 77 7).toInt = (M202.2.1 77 7).toInt := congrArg Int32.toInt c_233
    have c_235 : M223.2.1 77 6 = (M202.2.1 77 6) := (W_n W222 (by decide) (W_n W218 (by decide) rfl))
    have t_236 : (M223.2.1 77 6).toInt = (M202.2.1 77 6).toInt := congrArg Int32.toInt c_235
    have j_237 := (FA_f (fun a i z => W_n W222 (tg_411 a i z) rfl) (FA_f (fun a i z => W_n W218 (tg_412 a i z) rfl) (FA_f (tg_368 F194) (FA_f (fun a i z => W_n W181 (tg_94 a i z) rfl) q2))))
    have j_238 := (WC_f (fun a i z => W_n W222 (by /-r77,52-/ omega) rfl) (WC_f (fun a i z => W_n W218 (by /-r77,44-/ omega) rfl) (WC_f (tg_370 F194) (WC_f (fun a i z => W_n W181 (by /-r77,2-/ omega) rfl) q3))))
    have j_239 := (NJ_f (fun a i z => W_n W222 (by /-r77,52-/ omega) rfl) (NJ_f (fun a i z => W_n W218 (by /-r77,44-/ omega) rfl) (NJ_f (tg_372 F194) (NJ_f (fun a i z => W_n W181 (by /-r77,2-/ omega) rfl) q4))))
    have j_240 := (PS_f (fun a i z => W_n W222 (tg_413 a i z) rfl) (PS_f (fun a i z => W_n W218 (tg_414 a i z) rfl) (PS_f (tg_374 F194) (PS_f (fun a i z => W_n W181 (tg_388 a i z) rfl) q5))))
    have j_241 := (KQ_f (fun a i z => W_n W222 (by /-r77,52-/ omega) rfl) (KQ_f (fun a i z => W_n W218 (by /-r77,44-/ omega) rfl) (KQ_f (tg_376 F194) (KQ_f (fun a i z => W_n W181 (by /-r77,2-/ omega) rfl) q6))))
    have c_242 : M223.2.1 77 1 = (M202.2.1 77 1) := (W_n W222 (by decide) (W_n W218 (by decide) rfl))
    have t_243 : (M223.2.1 77 1).toInt = (M202.2.1 77 1).toInt := congrArg Int32.toInt c_242
    have j_244 := (RS_f (fun a i z => W_n W222 (tg_214 a i z) rfl) (RS_f (fun a i z => W_n W218 (tg_206 a i z) rfl) p_215.1))
    have j_245 := (TR_f (fun a i z => W_n W222 (tg_216 a i z) rfl) (TR_f (fun a i z => W_n W218 (tg_208 a i z) rfl) (TR_f (tg_73 F194) j_191)))
    have j_246 := (W9_f (fun a i z => W_n W222 (tg_218 a i z) rfl) (W9_f (fun a i z => W_n W218 (tg_210 a i z) rfl) (W9_f (tg_75 F194) j_192)))
    have j_247 := (PKr_f (fun a i z => W_n W222 (by /-r77,52-/ omega) rfl) (PKr_f (fun a i z => W_n W218 (by /-r77,44-/ omega) rfl) (PKr_f (fun a i z => F_n F194 (show ¬ (a = 77 ∧ (i = 1 ∨ 4 ≤ i ∧ i ≤ 10)) by omega) rfl) (PKr_f (fun a i z => W_n W181 (by /-r77,2-/ omega) rfl) q11))))
    have j_248 := (CWk_f (fun k hk9 => W_j W222 rfl) (CWk_f (fun k hk9 => W_j W218 rfl) (CWk_f (fun k hk9 => F_nl F194 (show ¬ (87 = 77 ∧ (k = 1 ∨ 4 ≤ k ∧ k ≤ 10)) by omega) rfl) (CWk_f (fun k hk9 => W_j W181 rfl) q18))))
    have j_249 := (PLk_f (fun a i z => W_n W222 (tg_480 a i z) rfl) (PLk_f (fun a i z => W_n W218 (tg_212 a i z) rfl) (PLk_f (tg_477 F194) (PLk_f (fun a i z => W_n W181 (tg_91 a i z) rfl) q19))))
    have j_250 := (W8_f (fun a i z => W_n W222 (tg_481 a i z) rfl) (W8_f (fun a i z => W_n W218 (tg_482 a i z) rfl) (W8_f (tg_478 F194) (W8_f (fun a i z => W_n W181 (tg_95 a i z) rfl) q20))))
    have j_251 := (NTr_f (fun a i z => W_n W222 (tg_483 a i z) rfl) (NTr_f (fun a i z => W_n W218 (tg_484 a i z) rfl) (NTr_f (tg_479 F194) (NTr_f (fun a i z => W_n W181 (tg_135 a i z) rfl) q21))))
    have c_252 : M223.2.1 77 28 = (M.2.1 77 28) := (W_n W222 (by decide) (W_n W218 (by decide) (F_n F194 (show ¬ (77 = 77 ∧ (28 = 1 ∨ 4 ≤ 28 ∧ 28 ≤ 10)) by decide) (W_n W181 (by decide) rfl))))
    have t_253 : (M223.2.1 77 28).toInt = (M.2.1 77 28).toInt := congrArg Int32.toInt c_252
    have c_254 : M223.2.1 77 29 = (M.2.1 77 29) := (W_n W222 (by decide) (W_n W218 (by decide) (F_n F194 (show ¬ (77 = 77 ∧ (29 = 1 ∨ 4 ≤ 29 ∧ 29 ≤ 10)) by decide) (W_n W181 (by decide) rfl))))
    have t_255 : (M223.2.1 77 29).toInt = (M.2.1 77 29).toInt := congrArg Int32.toInt c_254
    have c_256 : M223.2.1 77 10 = (M202.2.1 77 10) := (W_n W222 (by decide) (W_n W218 (by decide) rfl))
    have t_257 : (M223.2.1 77 10).toInt = (M202.2.1 77 10).toInt := congrArg Int32.toInt c_256
    have c_258 : M223.2.1 77 8 = (M202.2.1 77 8) := (W_n W222 (by decide) (W_n W218 (by decide) rfl))
    have b_259 := g_b hG195 (a := 77) (i := 8) (lo := 0) (hi := 5) rfl rfl
    have t_260 : (M223.2.1 77 8).toInt = (M202.2.1 77 8).toInt := congrArg Int32.toInt c_258
    exact (U_219_0 (n := n) (t := t) (nn := nn) (sg := sg) (NN := NN) (nz := nz) (ca := ca) (P9 := P9) (ov := ov) hX hd q1 q2 q3 q4 q5 q6 q7 q8 q9 q10 q11 q12 q13 q14 q15 q16 q17 q18 q19 q20 q21 h ((6 * (500 - (M223.2.1 77 7).toInt) + (M223.2.1 77 8).toInt).toNat + 1)) M223 (.int n) hG224 F225 (by omega) j_237 j_238 j_239 j_240 j_241 j_231 j_232 (by omega) (by omega) (by omega) j_244 j_245 j_246 (by omega) (by omega) (((W_n W222 (by omega) (W_n W218 (by omega) (F_n F194 (show ¬ (77 = 77 ∧ (41 = 1 ∨ 4 ≤ 41 ∧ 41 ≤ 10)) by decide) (W_n W181 (by omega) rfl))))).trans q10) j_247 j_248 j_249 j_250 j_251 (by omega) (by omega) (WS_0 (by omega) (by omega) (by omega) rfl) (by omega)
