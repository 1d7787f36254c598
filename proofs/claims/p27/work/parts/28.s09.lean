theorem tg_145 {M M1 : mm_M} (F : FR (fun a i : Nat => 94 ≤ a ∧ a ≤ 98) M M1) : ∀ a i : Nat, WC_r a i → M1.2.1 a i = M.2.1 a i := fun a i z => F_n F (show ¬ (94 ≤ a ∧ a ≤ 98) by omega) rfl
theorem tg_146 {M M1 : mm_M} (F : FR (fun a i : Nat => 94 ≤ a ∧ a ≤ 98) M M1) : ∀ a i : Nat, (81 ≤ a ∧ a ≤ 84) → M1.2.1 a i = M.2.1 a i := fun a i z => F_n F (show ¬ (94 ≤ a ∧ a ≤ 98) by omega) rfl
theorem tg_147 : ∀ a i : Nat, (a < 0) → (a = 77 ∧ i = 2 ∨ 94 ≤ a ∧ a ≤ 98 ∨ a = 118) := fun a i z => by omega
theorem tg_148 : ∀ a i : Nat, (94 ≤ a ∧ a ≤ 98) → (a = 77 ∧ i = 2 ∨ 94 ≤ a ∧ a ≤ 98 ∨ a = 118) := fun a i z => by omega
theorem tg_149 : ∀ a i j : Nat, (a = 77 ∧ 11 ≤ i ∧ i ≤ 13 ∨ 80 ≤ a ∧ a ≤ 84 ∧ i < 8 ∨ 85 ≤ a ∧ a ≤ 86 ∧ i < 12) → ¬ (a = 118 ∧ i = j) := fun a i j z => by omega
set_option maxRecDepth 4000 in
set_option maxHeartbeats 0 in
theorem U_237_0 {X : mm_X} {d : Nat} {M : mm_M} {Q : Option Value → mm_M → Prop} {n : Int32} {w : Int32} {sg : x_S} {NN : x_N} {nz : Int} {ca : Int} (hX : g_X X) (hd : 20 ≤ d) (q1 : x_vn sg ca NN nz) (q2 : ca ≤ 30) (q3 : (M.2.1 77 29).toInt = nz) (q4 : (M.2.1 77 28).toInt = ca) (q5 : CWk M sg) (q6 : FA M) (q7 : PLk M sg) (q8 : W8 M) (q9 : NTr M NN nz) (q10 : NJ M) (q11 : WC M) (h : ∀ (r : Int32) (M1 : mm_M), g_G M1 → FR md_bs M M1 → (x_best sg NN nz ca n.toInt w.toInt r.toInt) → Q (some (.int r)) M1) : ∀ nn9 : Nat, (∀ (N : mm_M) (u1 : Value) (x3 : Int32) (x4 : Int32) (x5 : Int32) (x6 : Int32) (x7 : Int32) (u8 : Value) (u9 : Value) (u10 : Value) (u11 : Value) (u12 : Value) (u13 : Value), g_G N → FR md_bs M N → (1 ≤ x4.toInt) → (x4.toInt ≤ 4) → (0 ≤ x3.toInt) → (x3.toInt ≤ 7) → (0 ≤ w.toInt) → (w.toInt ≤ 11) → (x4.toInt ≤ (N.2.1 83 (x3.toInt).toNat).toInt - (N.2.1 82 (x3.toInt).toNat).toInt + 1) → (∀ i : Nat, i < (x4.toInt).toNat → (N.2.1 118 i).toInt ≤ (N.2.1 83 (x3.toInt).toNat).toInt - (N.2.1 82 (x3.toInt).toNat).toInt + 1 - x4.toInt + i) → (PLk N sg) → ((N.2.1 77 28).toInt = ca) → (ca ≤ 30) → (0 ≤ n.toInt) → (n.toInt ≤ nz) → (w.toInt < sg.2.2.1) → (x3.toInt = x_row sg 7 w.toInt) → (x4.toInt = x_row sg 5 (x_row sg 7 w.toInt)) → (KST N 96 98 97 95 ca sg (x_kn sg NN (n.toInt).toNat)) → (x_sbw sg w.toInt (AR8 N)) → (LSW sg (x_kn sg NN (n.toInt).toNat) ca w.toInt (x_VB sg w.toInt (AR8 N)) x5.toInt x6.toInt x7.toInt) → (16777216 - PV N (x4.toInt).toNat) * 1000 + 500 < (nn9 : Int) → mm_T X d 236 77 [.ref 77, u1, .int w, .int x3, .int x4, .int x5, .int x6, .int x7, u8, u9, u10, u11, u12, u13] [] N Q) ∧ (∀ (N : mm_M) (u1 : Value) (x3 : Int32) (x4 : Int32) (x5 : Int32) (x6 : Int32) (x7 : Int32) (x8 : Int32) (x9 : Int32) (u10 : Value) (u11 : Value) (u12 : Value) (u13 : Value), g_G N → FR md_bs M N → (1 ≤ x4.toInt) → (x4.toInt ≤ 4) → (0 ≤ x3.toInt) → (x3.toInt ≤ 7) → (0 ≤ w.toInt) → (w.toInt ≤ 11) → (x4.toInt ≤ (N.2.1 83 (x3.toInt).toNat).toInt - (N.2.1 82 (x3.toInt).toNat).toInt + 1) → (0 ≤ x9.toInt) → (x9.toInt ≤ 4) → (∀ i : Nat, i < (x4.toInt).toNat → (N.2.1 118 i).toInt ≤ (N.2.1 83 (x3.toInt).toNat).toInt - (N.2.1 82 (x3.toInt).toNat).toInt + 1 - x4.toInt + i) → (PLk N sg) → ((N.2.1 77 28).toInt = ca) → (ca ≤ 30) → (0 ≤ n.toInt) → (n.toInt ≤ nz) → (w.toInt < sg.2.2.1) → (x3.toInt = x_row sg 7 w.toInt) → (x4.toInt = x_row sg 5 (x_row sg 7 w.toInt)) → (KST N 96 98 97 95 ca sg (x_kn sg NN (n.toInt).toNat)) → (x9.toInt ≤ x4.toInt) → (x8 = x_br (AR8 N) (x9.toInt).toNat) → (x_sbw sg w.toInt (AR8 N)) → (LSW sg (x_kn sg NN (n.toInt).toNat) ca w.toInt (x_VB sg w.toInt (AR8 N)) x5.toInt x6.toInt x7.toInt) → (16777216 - PV N (x4.toInt).toNat) * 1000 + 400 - x9.toInt < (nn9 : Int) → mm_T X d 236 83 [.ref 77, u1, .int w, .int x3, .int x4, .int x5, .int x6, .int x7, .int x8, .int x9, u10, u11, u12, u13] [] N Q) ∧ (∀ (N : mm_M) (u1 : Value) (x3 : Int32) (x4 : Int32) (x5 : Int32) (x6 : Int32) (x7 : Int32) (u8 : Value) (u9 : Value) (u10 : Value) (u11 : Value) (x12 : Int32) (u13 : Value), g_G N → FR md_bs M N → (1 ≤ x4.toInt) → (x4.toInt ≤ 4) → (0 ≤ x3.toInt) → (x3.toInt ≤ 7) → (0 ≤ w.toInt) → (w.toInt ≤ 11) → (x4.toInt ≤ (N.2.1 83 (x3.toInt).toNat).toInt - (N.2.1 82 (x3.toInt).toNat).toInt + 1) → (-1 ≤ x12.toInt) → (x12.toInt ≤ 3) → (x12.toInt < x4.toInt) → (∀ i : Nat, i < (x4.toInt).toNat → (N.2.1 118 i).toInt ≤ (N.2.1 83 (x3.toInt).toNat).toInt - (N.2.1 82 (x3.toInt).toNat).toInt + 1 - x4.toInt + i) → (PLk N sg) → ((N.2.1 77 28).toInt = ca) → (ca ≤ 30) → (0 ≤ n.toInt) → (n.toInt ≤ nz) → (w.toInt < sg.2.2.1) → (x3.toInt = x_row sg 7 w.toInt) → (x4.toInt = x_row sg 5 (x_row sg 7 w.toInt)) → (KST N 96 98 97 95 ca sg (x_kn sg NN (n.toInt).toNat)) → (x_sbw sg w.toInt (AR8 N)) → (LSW sg (x_kn sg NN (n.toInt).toNat) ca w.toInt (x_VA sg w.toInt (AR8 N)) x5.toInt x6.toInt x7.toInt) → (∀ m : Nat, x12.toInt < (m : Int) → (m : Int) < x4.toInt → AR8 N m = x_fW sg w.toInt - x4.toInt + (m : Int)) → (16777216 - PV N (x4.toInt).toNat) * 1000 + 200 + x12.toInt < (nn9 : Int) → mm_T X d 236 226 [.ref 77, u1, .int w, .int x3, .int x4, .int x5, .int x6, .int x7, u8, u9, u10, u11, .int x12, u13] [] N Q) ∧ (∀ (N : mm_M) (u1 : Value) (x3 : Int32) (x4 : Int32) (x5 : Int32) (x6 : Int32) (x7 : Int32) (u8 : Value) (u9 : Value) (u10 : Value) (u11 : Value) (u12 : Value) (x13 : Int32), g_G N → FR md_bs M N → (1 ≤ x4.toInt) → (x4.toInt ≤ 4) → (0 ≤ x3.toInt) → (x3.toInt ≤ 7) → (0 ≤ w.toInt) → (w.toInt ≤ 11) → (x4.toInt ≤ (N.2.1 83 (x3.toInt).toNat).toInt - (N.2.1 82 (x3.toInt).toNat).toInt + 1) → (1 ≤ x13.toInt) → (x13.toInt ≤ 4) → (x13.toInt ≤ x4.toInt) → (∀ i : Nat, i < (x13.toInt).toNat → (N.2.1 118 i).toInt ≤ (N.2.1 83 (x3.toInt).toNat).toInt - (N.2.1 82 (x3.toInt).toNat).toInt + 1 - x4.toInt + i) → (PLk N sg) → ((N.2.1 77 28).toInt = ca) → (ca ≤ 30) → (0 ≤ n.toInt) → (n.toInt ≤ nz) → (w.toInt < sg.2.2.1) → (x3.toInt = x_row sg 7 w.toInt) → (x4.toInt = x_row sg 5 (x_row sg 7 w.toInt)) → (KST N 96 98 97 95 ca sg (x_kn sg NN (n.toInt).toNat)) → (x_sbw sg w.toInt (x_nxt N x13.toInt)) → (LSW sg (x_kn sg NN (n.toInt).toNat) ca w.toInt (x_VB sg w.toInt (x_nxt N x13.toInt)) x5.toInt x6.toInt x7.toInt) → (16777216 - PW N (x13.toInt).toNat (x4.toInt).toNat) * 1000 + 900 - x13.toInt < (nn9 : Int) → mm_T X d 236 283 [.ref 77, u1, .int w, .int x3, .int x4, .int x5, .int x6, .int x7, u8, u9, u10, u11, u12, .int x13] [] N Q) := by
  intro nn9
  induction nn9 with
  | zero =>
    refine ⟨?_, ?_, ?_, ?_⟩
    · intro N u1 x3 x4 x5 x6 x7 u8 u9 u10 u11 u12 u13 hG F0 g1 g2 g3 g4 g5 g6 g7 g8 g9 g10 g11 g12 g13 g14 g15 g16 g17 g18 g19 hm
      have b_1 := g_b hG (a := 77) (i := 28) (lo := 0) (hi := 30) rfl rfl
      have s_2 := PV_b hG (x4.toInt).toNat
      have s_3 := pw_4 (k := (x4.toInt).toNat) (by omega)
      exfalso; omega
    · intro N u1 x3 x4 x5 x6 x7 x8 x9 u10 u11 u12 u13 hG F0 g1 g2 g3 g4 g5 g6 g7 g8 g9 g10 g11 g12 g13 g14 g15 g16 g17 g18 g19 g20 g21 g22 g23 hm
      have b_4 := g_b hG (a := 77) (i := 28) (lo := 0) (hi := 30) rfl rfl
      have s_5 := PV_b hG (x4.toInt).toNat
      have s_6 := pw_4 (k := (x4.toInt).toNat) (by omega)
      exfalso; omega
    · intro N u1 x3 x4 x5 x6 x7 u8 u9 u10 u11 x12 u13 hG F0 g1 g2 g3 g4 g5 g6 g7 g8 g9 g10 g11 g12 g13 g14 g15 g16 g17 g18 g19 g20 g21 g22 g23 hm
      have b_7 := g_b hG (a := 77) (i := 28) (lo := 0) (hi := 30) rfl rfl
      have s_8 := PV_b hG (x4.toInt).toNat
      have s_9 := pw_4 (k := (x4.toInt).toNat) (by omega)
      exfalso; omega
    · intro N u1 x3 x4 x5 x6 x7 u8 u9 u10 u11 u12 x13 hG F0 g1 g2 g3 g4 g5 g6 g7 g8 g9 g10 g11 g12 g13 g14 g15 g16 g17 g18 g19 g20 g21 g22 hm
      have b_10 := g_b hG (a := 77) (i := 28) (lo := 0) (hi := 30) rfl rfl
      have s_11 := PW_b hG (j := (x13.toInt).toNat) (k := (x4.toInt).toNat) (by omega) (by omega)
      exfalso; omega
  | succ nn9 ih =>
    refine ⟨?_, ?_, ?_, ?_⟩
    · intro N u1 x3 x4 x5 x6 x7 u8 u9 u10 u11 u12 u13 hG F0 g1 g2 g3 g4 g5 g6 g7 g8 g9 g10 g11 g12 g13 g14 g15 g16 g17 g18 g19 hm
      have b_12 := g_b hG (a := 77) (i := 28) (lo := 0) (hi := 30) rfl rfl
      have s_13 := PV_b hG (x4.toInt).toNat
      have s_14 := pw_4 (k := (x4.toInt).toNat) (by omega)
      have s_15 := g_b hG (a := 83) (i := (x3.toInt).toNat) (lo := 0) (hi := 63) rfl rfl
      have s_16 := g_b hG (a := 82) (i := (x3.toInt).toNat) (lo := 0) (hi := 59) rfl rfl
      have z_17 := g9.2.1
      have z_18 := g9.2.2.1
      have z_19 := g9.2.2.2.1
      have z_20 := g9.1
      have z_21 := z_20.1
      have z_22 := z_20.2.1
      have z_23 := z_20.2.2.1
      have z_24 := z_20.2.2.2.1
      have z_25 := z_20.2.2.2.2.1
      have z_26 := z_20.2.2.2.2.2.1
      have z_27 := g9.1.2.2.2.2.2.2.1 w.toInt (by omega) (by omega)
      have z_28 := g9.1.2.2.2.2.2.2.2 (x_row sg 7 w.toInt) (by omega) (by omega)
      have z_29 : x_fF sg w.toInt = x_row sg 3 (x_row sg 7 w.toInt) := rfl
      have z_30 : x_fW sg w.toInt = x_row sg 4 (x_row sg 7 w.toInt) - x_row sg 3 (x_row sg 7 w.toInt) + 1 := rfl
      have z_31 := x_fK_e (s := sg) (w := w.toInt) (by omega)
      have z_32 := PLk_r g9 3 82 rfl (by decide) (by decide) (k := x3.toInt) (by omega) (by omega) rfl
      have z_33 := x_row_v (s := sg) (r := 3) (x := x3.toInt) (y := (x_row sg 7 w.toInt)) (by omega)
      have z_34 := PLk_r g9 4 83 rfl (by decide) (by decide) (k := x3.toInt) (by omega) (by omega) rfl
      have z_35 := x_row_v (s := sg) (r := 4) (x := x3.toInt) (y := (x_row sg 7 w.toInt)) (by omega)
      refine to_c (pc := 77) rw_237_77 (x := (0 : Int32)) rfl rfl (to_is (pc := 78) rw_237_78 (ls2 := [.ref 77, u1, .int w, .int x3, .int x4, .int x5, .int x6, .int x7, .int (0 : Int32), u9, u10, u11, u12, u13]) rfl rfl (to_c (pc := 80) rw_237_80 (x := (0 : Int32)) rfl rfl (to_is (pc := 81) rw_237_81 (ls2 := [.ref 77, u1, .int w, .int x3, .int x4, .int x5, .int x6, .int x7, .int (0 : Int32), .int (0 : Int32), u10, u11, u12, u13]) rfl rfl ?_)))
      have k_36 : (0 : Int32).toInt = 0 := rfl
      exact ih.2.1 N (u1) x3 x4 x5 x6 x7 (0 : Int32) (0 : Int32) (u10) (u11) (u12) (u13) hG F0 (by omega) (by omega) (by omega) (by omega) (by omega) (by omega) (by omega) (by omega) (by omega) g8 g9 (by omega) (by omega) (by omega) (by omega) (by omega) (by omega) (by omega) g17 (by omega) (BR_0 (by first | rfl | omega) rfl) g18 g19 (by omega)
    · intro N u1 x3 x4 x5 x6 x7 x8 x9 u10 u11 u12 u13 hG F0 g1 g2 g3 g4 g5 g6 g7 g8 g9 g10 g11 g12 g13 g14 g15 g16 g17 g18 g19 g20 g21 g22 g23 hm
      have b_37 := g_b hG (a := 77) (i := 28) (lo := 0) (hi := 30) rfl rfl
      have s_38 := PV_b hG (x4.toInt).toNat
      have s_39 := pw_4 (k := (x4.toInt).toNat) (by omega)
      have s_40 := g_b hG (a := 83) (i := (x3.toInt).toNat) (lo := 0) (hi := 63) rfl rfl
      have s_41 := g_b hG (a := 82) (i := (x3.toInt).toNat) (lo := 0) (hi := 59) rfl rfl
      have z_42 := g11.2.1
      have z_43 := g11.2.2.1
      have z_44 := g11.2.2.2.1
      have z_45 := g11.1
      have z_46 := z_45.1
      have z_47 := z_45.2.1
      have z_48 := z_45.2.2.1
      have z_49 := z_45.2.2.2.1
      have z_50 := z_45.2.2.2.2.1
      have z_51 := z_45.2.2.2.2.2.1
      have z_52 := g11.1.2.2.2.2.2.2.1 w.toInt (by omega) (by omega)
      have z_53 := g11.1.2.2.2.2.2.2.2 (x_row sg 7 w.toInt) (by omega) (by omega)
      have z_54 : x_fF sg w.toInt = x_row sg 3 (x_row sg 7 w.toInt) := rfl
      have z_55 : x_fW sg w.toInt = x_row sg 4 (x_row sg 7 w.toInt) - x_row sg 3 (x_row sg 7 w.toInt) + 1 := rfl
      have z_56 := x_fK_e (s := sg) (w := w.toInt) (by omega)
      have z_57 := PLk_r g11 3 82 rfl (by decide) (by decide) (k := x3.toInt) (by omega) (by omega) rfl
      have z_58 := x_row_v (s := sg) (r := 3) (x := x3.toInt) (y := (x_row sg 7 w.toInt)) (by omega)
      have z_59 := PLk_r g11 4 83 rfl (by decide) (by decide) (k := x3.toInt) (by omega) (by omega) rfl
      have z_60 := x_row_v (s := sg) (r := 4) (x := x3.toInt) (y := (x_row sg 7 w.toInt)) (by omega)
      refine to_i (pc := 83) rw_237_83 rfl (to_i (pc := 85) rw_237_85 rfl (b_cge (pc := 87) rw_237_87 (A := x9.toInt) (B := x4.toInt) rfl rfl (fun h61 => ?_) (fun h61 => ?_)))
      · refine to_an (pc := 110) rw_237_110 rfl (to_in (pc := 111) rw_237_111 rfl (to_an (pc := 112) rw_237_112 rfl (to_in (pc := 113) rw_237_113 rfl (to_i (pc := 114) rw_237_114 rfl (s_v (pc := 116) rw_237_116 (dp0 hd (by decide)) (ls0 := [.ref 77, .int w, .int x8]) rfl (Nat.le_of_ble_eq_true rfl) (Nat.le_of_ble_eq_true rfl) rfl (to_rc rfl rfl rfl (g_o hG rfl)) rfl (to_in (pc := 0) rw_188_0 rfl (to_i2l (pc := 1) rw_188_1 (v := (x8.toInt64)) rfl (to_an (pc := 2) rw_188_2 rfl (s_gR (pc := 3) rw_188_3 hG rfl (v := 82) rfl (to_an (pc := 6) rw_188_6 rfl (s_gR (pc := 7) rw_188_7 hG rfl (v := 86) rfl ?_)))))))))))
        refine to_in (pc := 10) rw_188_10 rfl (s_ial (pc := 11) rw_188_11 hG rfl (n := 24) rfl rfl (A := w.toInt) rfl (by omega) (by omega) (lo := 0) (hi := 7) rfl rfl (fun v62 w_63 _ _ => ?_))
        have z_64 := PLk_w g11 7 86 rfl (by decide) (by decide) (k := w.toInt) (by omega) (by omega) w_63
        have z_65 := g11.1.2.2.2.2.2.2.1 w.toInt (by omega) (by omega)
        have z_66 := g11.1.2.2.2.2.2.2.2 (x_row sg 7 w.toInt) (by omega) (by omega)
        refine s_ial (pc := 12) rw_188_12 hG rfl (n := 16) rfl rfl (A := v62.toInt) rfl (by omega) (by omega) (lo := 0) (hi := 59) rfl rfl (fun v67 w_68 _ _ => ?_)
        have t_69 := congrArg Int32.toInt w_68
        have z_70 := PLk_r g11 3 82 rfl (by decide) (by decide) (k := v62.toInt) (by omega) (by omega) w_68
        have z_71 := x_row_v (s := sg) (r := 3) (x := v62.toInt) (y := (x_row sg 7 w.toInt)) (by omega)
        refine to_2s (pc := 13) rw_188_13 (v := ((x8.toInt64) <<< (v67.toInt64 &&& 63))) rfl (to_rl (pc := 14) rw_188_14 (s_v (pc := 119) rw_237_119 (dp0 hd (by decide)) (ls0 := [.ref 77, .int w, .long ((x8.toInt64) <<< (v67.toInt64 &&& 63)), .null, .null, .null]) rfl (Nat.le_of_ble_eq_true rfl) (Nat.le_of_ble_eq_true rfl) rfl (to_rc rfl rfl rfl (g_o hG rfl)) rfl ?_))
        have z_72 : x8 = x_br (AR8 N) (x_fK sg w.toInt) := by rw [show x_fK sg w.toInt = (x9.toInt).toNat by omega]; exact g21
        have z_73 : ((x8.toInt64) <<< (v67.toInt64 &&& 63)) = x_wd x8 (x_fF sg w.toInt) := by rw [x_sh_e (h := x_fF sg w.toInt) (show v67.toInt = x_fF sg w.toInt by omega)]; rfl
        refine E_234 hX (dp1 hd (by decide)) hG (by omega) (by omega) (by omega) (by omega) g19 (w := w) (x := ((x8.toInt64) <<< (v67.toInt64 &&& 63))) (sg := sg) (ca := ca) (K := (x_kn sg NN (n.toInt).toNat)) (fun r74 M78 hG76 F75 p_77 => ?_)
        have F79 := FR.c F0 F75 tg_147
        have z_80 := RW_D (s := sg) (Q := (x_kn sg NN (n.toInt).toNat)) (w := w.toInt) (ca := ca) g22 (by omega) (by omega) (by omega) (by omega) z_72 z_73 p_77
        refine to_is (pc := 122) rw_237_122 (ls2 := [.ref 77, u1, .int w, .int x3, .int x4, .int x5, .int x6, .int x7, .int x8, .int r74, u10, u11, u12, u13]) rfl rfl (to_i (pc := 124) rw_237_124 rfl (to_c (pc := 126) rw_237_126 (x := (-1 : Int32)) rfl rfl (b_ceq (pc := 127) rw_237_127 (A := x5.toInt) (B := -1) rfl rfl (fun h81 => ?_) (fun h81 => ?_))))
        · refine to_an (pc := 137) rw_237_137 rfl (to_in (pc := 138) rw_237_138 rfl (to_an (pc := 139) rw_237_139 rfl (to_in (pc := 140) rw_237_140 rfl (to_i (pc := 141) rw_237_141 rfl (s_v (pc := 143) rw_237_143 (dp0 hd (by decide)) (ls0 := [.ref 77, .int w, .int x8]) rfl (Nat.le_of_ble_eq_true rfl) (Nat.le_of_ble_eq_true rfl) rfl (to_rc rfl rfl rfl (g_o hG76 rfl)) rfl (to_in (pc := 0) rw_188_0 rfl (to_i2l (pc := 1) rw_188_1 (v := (x8.toInt64)) rfl (to_an (pc := 2) rw_188_2 rfl (s_gR (pc := 3) rw_188_3 hG76 rfl (v := 82) rfl (to_an (pc := 6) rw_188_6 rfl (s_gR (pc := 7) rw_188_7 hG76 rfl (v := 86) rfl ?_)))))))))))
          refine to_in (pc := 10) rw_188_10 rfl (s_ialk (pc := 11) rw_188_11 hG76 rfl (n := 24) rfl rfl (A := w.toInt) rfl (by omega) (by omega) (v := v62) (F_n F75 (show ¬ (86 < 0) by decide) w_63) (s_ialk (pc := 12) rw_188_12 hG76 rfl (n := 16) rfl rfl (A := v62.toInt) rfl (by omega) (by omega) (v := v67) (F_n F75 (show ¬ (82 < 0) by decide) w_68) (to_2s (pc := 13) rw_188_13 (v := ((x8.toInt64) <<< (v67.toInt64 &&& 63))) rfl (to_rl (pc := 14) rw_188_14 (s_v (pc := 146) rw_237_146 (dp0 hd (by decide)) (ls0 := [.ref 77, .int w, .long ((x8.toInt64) <<< (v67.toInt64 &&& 63)), .null, .null, .null]) rfl (Nat.le_of_ble_eq_true rfl) (Nat.le_of_ble_eq_true rfl) rfl (to_rc rfl rfl rfl (g_o hG76 rfl)) rfl ?_)))))
          have z_86 : ((x8.toInt64) <<< (v67.toInt64 &&& 63)) = x_wd x8 (x_fF sg w.toInt) := by rw [x_sh_e (h := x_fF sg w.toInt) (show v67.toInt = x_fF sg w.toInt by omega)]; rfl
          have z_87 := RW_nn g22 (by omega) (by omega) (by omega) z_72 z_86
          have j_88 := (PLk_f (tg_101 F75) g11)
          have kn_89 : KST M78 96 98 97 95 ca sg (x_kn sg NN (n.toInt).toNat) := KST_f (fun i => (F_nl F75 (show ¬ (96 < 0) by decide) rfl)) (fun i => (F_n F75 (show ¬ (98 < 0) by decide) rfl)) (fun i => (F_n F75 (show ¬ (97 < 0) by decide) rfl)) (fun i => (F_nl F75 (show ¬ (95 < 0) by decide) rfl)) g19
          refine E_236 hX (dp1 hd (by decide)) hG76 (by omega) (by omega) (by omega) j_88 kn_89 (w := w) (x := ((x8.toInt64) <<< (v67.toInt64 &&& 63))) (sg := sg) (ca := ca) (K := (x_kn sg NN (n.toInt).toNat)) (fun r90 M94 hG92 F91 p_93 => ?_)
          have F95 := FR.c F79 F91 tg_147
          have z_96 := RW_S (s := sg) (Q := (x_kn sg NN (n.toInt).toNat)) (w := w.toInt) g22 (by omega) (by omega) (by omega) z_72 z_86 p_93
          refine to_go (pc := 149) rw_237_149 (to_is (pc := 153) rw_237_153 (ls2 := [.ref 77, u1, .int w, .int x3, .int x4, .int x5, .int x6, .int x7, .int x8, .int r74, .int r90, u11, u12, u13]) rfl rfl (to_i (pc := 155) rw_237_155 rfl (to_c (pc := 157) rw_237_157 (x := (-1 : Int32)) rfl rfl (b_ceq_t (pc := 158) rw_237_158 (A := x5.toInt) (B := -1) rfl rfl (by omega) (to_c (pc := 196) rw_237_196 (x := (1 : Int32)) rfl rfl (to_go (pc := 197) rw_237_197 (to_is (pc := 201) rw_237_201 (ls2 := [.ref 77, u1, .int w, .int x3, .int x4, .int x5, .int x6, .int x7, .int x8, .int r74, .int r90, .int (1 : Int32), u12, u13]) rfl rfl (to_i (pc := 203) rw_237_203 rfl (b_ieq_f (pc := 205) rw_237_205 (A := 1) rfl (by decide) (to_i (pc := 208) rw_237_208 rfl (to_is (pc := 210) rw_237_210 (ls2 := [.ref 77, u1, .int w, .int x3, .int x4, .int x8, .int x6, .int x7, .int x8, .int r74, .int r90, .int (1 : Int32), u12, u13]) rfl rfl ?_)))))))))))
          refine to_i (pc := 212) rw_237_212 rfl (to_is (pc := 214) rw_237_214 (ls2 := [.ref 77, u1, .int w, .int x3, .int x4, .int x8, .int r74, .int x7, .int x8, .int r74, .int r90, .int (1 : Int32), u12, u13]) rfl rfl (to_i (pc := 216) rw_237_216 rfl (to_is (pc := 218) rw_237_218 (ls2 := [.ref 77, u1, .int w, .int x3, .int x4, .int x8, .int r74, .int r90, .int x8, .int r74, .int r90, .int (1 : Int32), u12, u13]) rfl rfl (to_i (pc := 220) rw_237_220 rfl (to_c (pc := 222) rw_237_222 (x := (1 : Int32)) rfl rfl (s_sub (pc := 223) rw_237_223 (A := x4.toInt) (B := 1) rfl rfl (by omega) (fun v97 e98 => to_is (pc := 224) rw_237_224 (ls2 := [.ref 77, u1, .int w, .int x3, .int x4, .int x8, .int r74, .int r90, .int x8, .int r74, .int r90, .int (1 : Int32), .int v97, u13]) rfl rfl ?_)))))))
          have t_99 : (M94.2.1 83 (x3.toInt).toNat).toInt = (N.2.1 83 (x3.toInt).toNat).toInt := congrArg Int32.toInt (F_n F91 (show ¬ (83 < 0) by decide) (F_n F75 (show ¬ (83 < 0) by decide) rfl))
          have t_100 : (M94.2.1 82 (x3.toInt).toNat).toInt = (N.2.1 82 (x3.toInt).toNat).toInt := congrArg Int32.toInt (F_n F91 (show ¬ (82 < 0) by decide) (F_n F75 (show ¬ (82 < 0) by decide) rfl))
          have t_101 : (M94.2.1 82 (x3.toInt).toNat).toInt = (N.2.1 82 (x3.toInt).toNat).toInt := congrArg Int32.toInt (F_n F91 (show ¬ (82 < 0) by decide) (F_n F75 (show ¬ (82 < 0) by decide) rfl))
          have t_102 : (M94.2.1 83 (x3.toInt).toNat).toInt = (N.2.1 83 (x3.toInt).toNat).toInt := congrArg Int32.toInt (F_n F91 (show ¬ (83 < 0) by decide) (F_n F75 (show ¬ (83 < 0) by decide) rfl))
          have s_103 : PV M94 (x4.toInt).toNat = PV N (x4.toInt).toNat := PV_f _ (fun i z => (F_n F91 (show ¬ (118 < 0) by decide) (F_n F75 (show ¬ (118 < 0) by decide) rfl)))
          have j_104 := (PLk_f (tg_101 F91) j_88)
          have c_105 : M94.2.1 77 28 = (N.2.1 77 28) := (F_n F91 (show ¬ (77 < 0) by decide) (F_n F75 (show ¬ (77 < 0) by decide) rfl))
          have t_106 : (M94.2.1 77 28).toInt = (N.2.1 77 28).toInt := congrArg Int32.toInt c_105
          have kn_107 : KST M94 96 98 97 95 ca sg (x_kn sg NN (n.toInt).toNat) := KST_f (fun i => (F_nl F91 (show ¬ (96 < 0) by decide) rfl)) (fun i => (F_n F91 (show ¬ (98 < 0) by decide) rfl)) (fun i => (F_n F91 (show ¬ (97 < 0) by decide) rfl)) (fun i => (F_nl F91 (show ¬ (95 < 0) by decide) rfl)) kn_89
          exact ih.2.2.1 M94 (u1) x3 x4 x8 r74 r90 (.int x8) (.int r74) (.int r90) (.int (1 : Int32)) v97 (u13) hG92 F95 (by omega) (by omega) (by omega) (by omega) (by omega) (by omega) (by omega) (by omega) (by omega) (by omega) (fun i z => by have z2 := g10 i z; rw [(F_n F91 (show ¬ (118 < 0) by decide) (F_n F75 (show ¬ (118 < 0) by decide) rfl))]; omega) j_104 (by omega) (by omega) (by omega) (by omega) (by omega) (by omega) (by omega) kn_107 (SA_f (fun i => (F_n F91 (show ¬ (118 < 0) by decide) (F_n F75 (show ¬ (118 < 0) by decide) rfl))) g22) (LA_f (fun i => (F_n F91 (show ¬ (118 < 0) by decide) (F_n F75 (show ¬ (118 < 0) by decide) rfl))) (RL_y g23 g22 (by omega) z_72 z_80 z_96 (by omega) rfl rfl rfl)) (fun m h1 h2 => by omega) (by omega)
        · refine to_i (pc := 130) rw_237_130 rfl (to_i (pc := 132) rw_237_132 rfl (b_cgt (pc := 134) rw_237_134 (A := r74.toInt) (B := x6.toInt) rfl rfl (fun h108 => ?_) (fun h108 => ?_)))
          · refine to_c (pc := 152) rw_237_152 (x := (0 : Int32)) rfl rfl (to_is (pc := 153) rw_237_153 (ls2 := [.ref 77, u1, .int w, .int x3, .int x4, .int x5, .int x6, .int x7, .int x8, .int r74, .int (0 : Int32), u11, u12, u13]) rfl rfl (to_i (pc := 155) rw_237_155 rfl (to_c (pc := 157) rw_237_157 (x := (-1 : Int32)) rfl rfl (b_ceq (pc := 158) rw_237_158 (A := x5.toInt) (B := -1) rfl rfl (fun h109 => ?_) (fun h109 => ?_)))))
            · refine to_c (pc := 196) rw_237_196 (x := (1 : Int32)) rfl rfl (to_go (pc := 197) rw_237_197 (to_is (pc := 201) rw_237_201 (ls2 := [.ref 77, u1, .int w, .int x3, .int x4, .int x5, .int x6, .int x7, .int x8, .int r74, .int (0 : Int32), .int (1 : Int32), u12, u13]) rfl rfl (to_i (pc := 203) rw_237_203 rfl (b_ieq_f (pc := 205) rw_237_205 (A := 1) rfl (by decide) (to_i (pc := 208) rw_237_208 rfl (to_is (pc := 210) rw_237_210 (ls2 := [.ref 77, u1, .int w, .int x3, .int x4, .int x8, .int x6, .int x7, .int x8, .int r74, .int (0 : Int32), .int (1 : Int32), u12, u13]) rfl rfl (to_i (pc := 212) rw_237_212 rfl (to_is (pc := 214) rw_237_214 (ls2 := [.ref 77, u1, .int w, .int x3, .int x4, .int x8, .int r74, .int x7, .int x8, .int r74, .int (0 : Int32), .int (1 : Int32), u12, u13]) rfl rfl (to_i (pc := 216) rw_237_216 rfl (to_is (pc := 218) rw_237_218 (ls2 := [.ref 77, u1, .int w, .int x3, .int x4, .int x8, .int r74, .int (0 : Int32), .int x8, .int r74, .int (0 : Int32), .int (1 : Int32), u12, u13]) rfl rfl (to_i (pc := 220) rw_237_220 rfl ?_)))))))))))
              refine to_c (pc := 222) rw_237_222 (x := (1 : Int32)) rfl rfl (s_sub (pc := 223) rw_237_223 (A := x4.toInt) (B := 1) rfl rfl (by omega) (fun v110 e111 => to_is (pc := 224) rw_237_224 (ls2 := [.ref 77, u1, .int w, .int x3, .int x4, .int x8, .int r74, .int (0 : Int32), .int x8, .int r74, .int (0 : Int32), .int (1 : Int32), .int v110, u13]) rfl rfl ?_))
              have k_112 : (0 : Int32).toInt = 0 := rfl
              have t_113 : (M78.2.1 83 (x3.toInt).toNat).toInt = (N.2.1 83 (x3.toInt).toNat).toInt := congrArg Int32.toInt (F_n F75 (show ¬ (83 < 0) by decide) rfl)
              have t_114 : (M78.2.1 82 (x3.toInt).toNat).toInt = (N.2.1 82 (x3.toInt).toNat).toInt := congrArg Int32.toInt (F_n F75 (show ¬ (82 < 0) by decide) rfl)
              have t_115 : (M78.2.1 82 (x3.toInt).toNat).toInt = (N.2.1 82 (x3.toInt).toNat).toInt := congrArg Int32.toInt (F_n F75 (show ¬ (82 < 0) by decide) rfl)
              have t_116 : (M78.2.1 83 (x3.toInt).toNat).toInt = (N.2.1 83 (x3.toInt).toNat).toInt := congrArg Int32.toInt (F_n F75 (show ¬ (83 < 0) by decide) rfl)
              have s_117 : PV M78 (x4.toInt).toNat = PV N (x4.toInt).toNat := PV_f _ (fun i z => (F_n F75 (show ¬ (118 < 0) by decide) rfl))
              have j_118 := (PLk_f (tg_101 F75) g11)
              have c_119 : M78.2.1 77 28 = (N.2.1 77 28) := (F_n F75 (show ¬ (77 < 0) by decide) rfl)
              have t_120 : (M78.2.1 77 28).toInt = (N.2.1 77 28).toInt := congrArg Int32.toInt c_119
              have kn_121 : KST M78 96 98 97 95 ca sg (x_kn sg NN (n.toInt).toNat) := KST_f (fun i => (F_nl F75 (show ¬ (96 < 0) by decide) rfl)) (fun i => (F_n F75 (show ¬ (98 < 0) by decide) rfl)) (fun i => (F_n F75 (show ¬ (97 < 0) by decide) rfl)) (fun i => (F_nl F75 (show ¬ (95 < 0) by decide) rfl)) g19
              exact ih.2.2.1 M78 (u1) x3 x4 x8 r74 (0 : Int32) (.int x8) (.int r74) (.int (0 : Int32)) (.int (1 : Int32)) v110 (u13) hG76 F79 (by omega) (by omega) (by omega) (by omega) (by omega) (by omega) (by omega) (by omega) (by omega) (by omega) (fun i z => by have z2 := g10 i z; rw [(F_n F75 (show ¬ (118 < 0) by decide) rfl)]; omega) j_118 (by omega) (by omega) (by omega) (by omega) (by omega) (by omega) (by omega) kn_121 (SA_f (fun i => (F_n F75 (show ¬ (118 < 0) by decide) rfl)) g22) (by exfalso; omega) (fun m h1 h2 => by omega) (by omega)
            · refine to_i (pc := 161) rw_237_161 rfl (to_i (pc := 163) rw_237_163 rfl (b_clt (pc := 165) rw_237_165 (A := r74.toInt) (B := x6.toInt) rfl rfl (fun h122 => ?_) (fun h122 => ?_)))
              · refine to_c (pc := 196) rw_237_196 (x := (1 : Int32)) rfl rfl (to_go (pc := 197) rw_237_197 (to_is (pc := 201) rw_237_201 (ls2 := [.ref 77, u1, .int w, .int x3, .int x4, .int x5, .int x6, .int x7, .int x8, .int r74, .int (0 : Int32), .int (1 : Int32), u12, u13]) rfl rfl (to_i (pc := 203) rw_237_203 rfl (b_ieq_f (pc := 205) rw_237_205 (A := 1) rfl (by decide) (to_i (pc := 208) rw_237_208 rfl (to_is (pc := 210) rw_237_210 (ls2 := [.ref 77, u1, .int w, .int x3, .int x4, .int x8, .int x6, .int x7, .int x8, .int r74, .int (0 : Int32), .int (1 : Int32), u12, u13]) rfl rfl (to_i (pc := 212) rw_237_212 rfl (to_is (pc := 214) rw_237_214 (ls2 := [.ref 77, u1, .int w, .int x3, .int x4, .int x8, .int r74, .int x7, .int x8, .int r74, .int (0 : Int32), .int (1 : Int32), u12, u13]) rfl rfl (to_i (pc := 216) rw_237_216 rfl (to_is (pc := 218) rw_237_218 (ls2 := [.ref 77, u1, .int w, .int x3, .int x4, .int x8, .int r74, .int (0 : Int32), .int x8, .int r74, .int (0 : Int32), .int (1 : Int32), u12, u13]) rfl rfl (to_i (pc := 220) rw_237_220 rfl ?_)))))))))))
                refine to_c (pc := 222) rw_237_222 (x := (1 : Int32)) rfl rfl (s_sub (pc := 223) rw_237_223 (A := x4.toInt) (B := 1) rfl rfl (by omega) (fun v123 e124 => to_is (pc := 224) rw_237_224 (ls2 := [.ref 77, u1, .int w, .int x3, .int x4, .int x8, .int r74, .int (0 : Int32), .int x8, .int r74, .int (0 : Int32), .int (1 : Int32), .int v123, u13]) rfl rfl ?_))
                have k_125 : (0 : Int32).toInt = 0 := rfl
                have t_126 : (M78.2.1 83 (x3.toInt).toNat).toInt = (N.2.1 83 (x3.toInt).toNat).toInt := congrArg Int32.toInt (F_n F75 (show ¬ (83 < 0) by decide) rfl)
                have t_127 : (M78.2.1 82 (x3.toInt).toNat).toInt = (N.2.1 82 (x3.toInt).toNat).toInt := congrArg Int32.toInt (F_n F75 (show ¬ (82 < 0) by decide) rfl)
                have t_128 : (M78.2.1 82 (x3.toInt).toNat).toInt = (N.2.1 82 (x3.toInt).toNat).toInt := congrArg Int32.toInt (F_n F75 (show ¬ (82 < 0) by decide) rfl)
                have t_129 : (M78.2.1 83 (x3.toInt).toNat).toInt = (N.2.1 83 (x3.toInt).toNat).toInt := congrArg Int32.toInt (F_n F75 (show ¬ (83 < 0) by decide) rfl)
                have s_130 : PV M78 (x4.toInt).toNat = PV N (x4.toInt).toNat := PV_f _ (fun i z => (F_n F75 (show ¬ (118 < 0) by decide) rfl))
                have j_131 := (PLk_f (tg_101 F75) g11)
                have c_132 : M78.2.1 77 28 = (N.2.1 77 28) := (F_n F75 (show ¬ (77 < 0) by decide) rfl)
                have t_133 : (M78.2.1 77 28).toInt = (N.2.1 77 28).toInt := congrArg Int32.toInt c_132
                have kn_134 : KST M78 96 98 97 95 ca sg (x_kn sg NN (n.toInt).toNat) := KST_f (fun i => (F_nl F75 (show ¬ (96 < 0) by decide) rfl)) (fun i => (F_n F75 (show ¬ (98 < 0) by decide) rfl)) (fun i => (F_n F75 (show ¬ (97 < 0) by decide) rfl)) (fun i => (F_nl F75 (show ¬ (95 < 0) by decide) rfl)) g19
                exact ih.2.2.1 M78 (u1) x3 x4 x8 r74 (0 : Int32) (.int x8) (.int r74) (.int (0 : Int32)) (.int (1 : Int32)) v123 (u13) hG76 F79 (by omega) (by omega) (by omega) (by omega) (by omega) (by omega) (by omega) (by omega) (by omega) (by omega) (fun i z => by have z2 := g10 i z; rw [(F_n F75 (show ¬ (118 < 0) by decide) rfl)]; omega) j_131 (by omega) (by omega) (by omega) (by omega) (by omega) (by omega) (by omega) kn_134 (SA_f (fun i => (F_n F75 (show ¬ (118 < 0) by decide) rfl)) g22) (by exfalso; omega) (fun m h1 h2 => by omega) (by omega)
              · refine to_i (pc := 168) rw_237_168 rfl (to_i (pc := 170) rw_237_170 rfl (b_cne (pc := 172) rw_237_172 (A := r74.toInt) (B := x6.toInt) rfl rfl (fun h135 => ?_) (fun h135 => ?_)))
                · refine to_c (pc := 200) rw_237_200 (x := (0 : Int32)) rfl rfl (to_is (pc := 201) rw_237_201 (ls2 := [.ref 77, u1, .int w, .int x3, .int x4, .int x5, .int x6, .int x7, .int x8, .int r74, .int (0 : Int32), .int (0 : Int32), u12, u13]) rfl rfl (to_i (pc := 203) rw_237_203 rfl (b_ieq_t (pc := 205) rw_237_205 (A := 0) rfl (by decide) (to_i (pc := 220) rw_237_220 rfl (to_c (pc := 222) rw_237_222 (x := (1 : Int32)) rfl rfl (s_sub (pc := 223) rw_237_223 (A := x4.toInt) (B := 1) rfl rfl (by omega) (fun v136 e137 => to_is (pc := 224) rw_237_224 (ls2 := [.ref 77, u1, .int w, .int x3, .int x4, .int x5, .int x6, .int x7, .int x8, .int r74, .int (0 : Int32), .int (0 : Int32), .int v136, u13]) rfl rfl ?_)))))))
                  have t_138 : (M78.2.1 83 (x3.toInt).toNat).toInt = (N.2.1 83 (x3.toInt).toNat).toInt := congrArg Int32.toInt (F_n F75 (show ¬ (83 < 0) by decide) rfl)
                  have t_139 : (M78.2.1 82 (x3.toInt).toNat).toInt = (N.2.1 82 (x3.toInt).toNat).toInt := congrArg Int32.toInt (F_n F75 (show ¬ (82 < 0) by decide) rfl)
                  have t_140 : (M78.2.1 82 (x3.toInt).toNat).toInt = (N.2.1 82 (x3.toInt).toNat).toInt := congrArg Int32.toInt (F_n F75 (show ¬ (82 < 0) by decide) rfl)
                  have t_141 : (M78.2.1 83 (x3.toInt).toNat).toInt = (N.2.1 83 (x3.toInt).toNat).toInt := congrArg Int32.toInt (F_n F75 (show ¬ (83 < 0) by decide) rfl)
                  have s_142 : PV M78 (x4.toInt).toNat = PV N (x4.toInt).toNat := PV_f _ (fun i z => (F_n F75 (show ¬ (118 < 0) by decide) rfl))
                  have j_143 := (PLk_f (tg_101 F75) g11)
                  have c_144 : M78.2.1 77 28 = (N.2.1 77 28) := (F_n F75 (show ¬ (77 < 0) by decide) rfl)
                  have t_145 : (M78.2.1 77 28).toInt = (N.2.1 77 28).toInt := congrArg Int32.toInt c_144
                  have kn_146 : KST M78 96 98 97 95 ca sg (x_kn sg NN (n.toInt).toNat) := KST_f (fun i => (F_nl F75 (show ¬ (96 < 0) by decide) rfl)) (fun i => (F_n F75 (show ¬ (98 < 0) by decide) rfl)) (fun i => (F_n F75 (show ¬ (97 < 0) by decide) rfl)) (fun i => (F_nl F75 (show ¬ (95 < 0) by decide) rfl)) g19
                  exact ih.2.2.1 M78 (u1) x3 x4 x5 x6 x7 (.int x8) (.int r74) (.int (0 : Int32)) (.int (0 : Int32)) v136 (u13) hG76 F79 (by omega) (by omega) (by omega) (by omega) (by omega) (by omega) (by omega) (by omega) (by omega) (by omega) (fun i z => by have z2 := g10 i z; rw [(F_n F75 (show ¬ (118 < 0) by decide) rfl)]; omega) j_143 (by omega) (by omega) (by omega) (by omega) (by omega) (by omega) (by omega) kn_146 (SA_f (fun i => (F_n F75 (show ¬ (118 < 0) by decide) rfl)) g22) (LA_f (fun i => (F_n F75 (show ¬ (118 < 0) by decide) rfl)) (RL_n (sr := 0) g23 g22 z_72 z_80 (Or.inl (by omega)) (by omega) (by omega) rfl rfl rfl)) (fun m h1 h2 => by omega) (by omega)
                · refine to_i (pc := 175) rw_237_175 rfl (to_i (pc := 177) rw_237_177 rfl (b_clt (pc := 179) rw_237_179 (A := 0) (B := x7.toInt) rfl rfl (fun h147 => ?_) (fun h147 => ?_)))
                  · refine to_c (pc := 196) rw_237_196 (x := (1 : Int32)) rfl rfl (to_go (pc := 197) rw_237_197 (to_is (pc := 201) rw_237_201 (ls2 := [.ref 77, u1, .int w, .int x3, .int x4, .int x5, .int x6, .int x7, .int x8, .int r74, .int (0 : Int32), .int (1 : Int32), u12, u13]) rfl rfl (to_i (pc := 203) rw_237_203 rfl (b_ieq_f (pc := 205) rw_237_205 (A := 1) rfl (by decide) (to_i (pc := 208) rw_237_208 rfl (to_is (pc := 210) rw_237_210 (ls2 := [.ref 77, u1, .int w, .int x3, .int x4, .int x8, .int x6, .int x7, .int x8, .int r74, .int (0 : Int32), .int (1 : Int32), u12, u13]) rfl rfl (to_i (pc := 212) rw_237_212 rfl (to_is (pc := 214) rw_237_214 (ls2 := [.ref 77, u1, .int w, .int x3, .int x4, .int x8, .int r74, .int x7, .int x8, .int r74, .int (0 : Int32), .int (1 : Int32), u12, u13]) rfl rfl (to_i (pc := 216) rw_237_216 rfl (to_is (pc := 218) rw_237_218 (ls2 := [.ref 77, u1, .int w, .int x3, .int x4, .int x8, .int r74, .int (0 : Int32), .int x8, .int r74, .int (0 : Int32), .int (1 : Int32), u12, u13]) rfl rfl (to_i (pc := 220) rw_237_220 rfl ?_)))))))))))
                    refine to_c (pc := 222) rw_237_222 (x := (1 : Int32)) rfl rfl (s_sub (pc := 223) rw_237_223 (A := x4.toInt) (B := 1) rfl rfl (by omega) (fun v148 e149 => to_is (pc := 224) rw_237_224 (ls2 := [.ref 77, u1, .int w, .int x3, .int x4, .int x8, .int r74, .int (0 : Int32), .int x8, .int r74, .int (0 : Int32), .int (1 : Int32), .int v148, u13]) rfl rfl ?_))
                    have k_150 : (0 : Int32).toInt = 0 := rfl
                    have t_151 : (M78.2.1 83 (x3.toInt).toNat).toInt = (N.2.1 83 (x3.toInt).toNat).toInt := congrArg Int32.toInt (F_n F75 (show ¬ (83 < 0) by decide) rfl)
                    have t_152 : (M78.2.1 82 (x3.toInt).toNat).toInt = (N.2.1 82 (x3.toInt).toNat).toInt := congrArg Int32.toInt (F_n F75 (show ¬ (82 < 0) by decide) rfl)
                    have t_153 : (M78.2.1 82 (x3.toInt).toNat).toInt = (N.2.1 82 (x3.toInt).toNat).toInt := congrArg Int32.toInt (F_n F75 (show ¬ (82 < 0) by decide) rfl)
                    have t_154 : (M78.2.1 83 (x3.toInt).toNat).toInt = (N.2.1 83 (x3.toInt).toNat).toInt := congrArg Int32.toInt (F_n F75 (show ¬ (83 < 0) by decide) rfl)
                    have s_155 : PV M78 (x4.toInt).toNat = PV N (x4.toInt).toNat := PV_f _ (fun i z => (F_n F75 (show ¬ (118 < 0) by decide) rfl))
                    have j_156 := (PLk_f (tg_101 F75) g11)
                    have c_157 : M78.2.1 77 28 = (N.2.1 77 28) := (F_n F75 (show ¬ (77 < 0) by decide) rfl)
                    have t_158 : (M78.2.1 77 28).toInt = (N.2.1 77 28).toInt := congrArg Int32.toInt c_157
                    have kn_159 : KST M78 96 98 97 95 ca sg (x_kn sg NN (n.toInt).toNat) := KST_f (fun i => (F_nl F75 (show ¬ (96 < 0) by decide) rfl)) (fun i => (F_n F75 (show ¬ (98 < 0) by decide) rfl)) (fun i => (F_n F75 (show ¬ (97 < 0) by decide) rfl)) (fun i => (F_nl F75 (show ¬ (95 < 0) by decide) rfl)) g19
                    exact ih.2.2.1 M78 (u1) x3 x4 x8 r74 (0 : Int32) (.int x8) (.int r74) (.int (0 : Int32)) (.int (1 : Int32)) v148 (u13) hG76 F79 (by omega) (by omega) (by omega) (by omega) (by omega) (by omega) (by omega) (by omega) (by omega) (by omega) (fun i z => by have z2 := g10 i z; rw [(F_n F75 (show ¬ (118 < 0) by decide) rfl)]; omega) j_156 (by omega) (by omega) (by omega) (by omega) (by omega) (by omega) (by omega) kn_159 (SA_f (fun i => (F_n F75 (show ¬ (118 < 0) by decide) rfl)) g22) (by exfalso; omega) (fun m h1 h2 => by omega) (by omega)
                  · refine to_i (pc := 182) rw_237_182 rfl (to_i (pc := 184) rw_237_184 rfl (b_cne (pc := 186) rw_237_186 (A := 0) (B := x7.toInt) rfl rfl (fun h160 => ?_) (fun h160 => ?_)))
                    · refine to_c (pc := 200) rw_237_200 (x := (0 : Int32)) rfl rfl (to_is (pc := 201) rw_237_201 (ls2 := [.ref 77, u1, .int w, .int x3, .int x4, .int x5, .int x6, .int x7, .int x8, .int r74, .int (0 : Int32), .int (0 : Int32), u12, u13]) rfl rfl (to_i (pc := 203) rw_237_203 rfl (b_ieq_t (pc := 205) rw_237_205 (A := 0) rfl (by decide) (to_i (pc := 220) rw_237_220 rfl (to_c (pc := 222) rw_237_222 (x := (1 : Int32)) rfl rfl (s_sub (pc := 223) rw_237_223 (A := x4.toInt) (B := 1) rfl rfl (by omega) (fun v161 e162 => to_is (pc := 224) rw_237_224 (ls2 := [.ref 77, u1, .int w, .int x3, .int x4, .int x5, .int x6, .int x7, .int x8, .int r74, .int (0 : Int32), .int (0 : Int32), .int v161, u13]) rfl rfl ?_)))))))
                      have t_163 : (M78.2.1 83 (x3.toInt).toNat).toInt = (N.2.1 83 (x3.toInt).toNat).toInt := congrArg Int32.toInt (F_n F75 (show ¬ (83 < 0) by decide) rfl)
                      have t_164 : (M78.2.1 82 (x3.toInt).toNat).toInt = (N.2.1 82 (x3.toInt).toNat).toInt := congrArg Int32.toInt (F_n F75 (show ¬ (82 < 0) by decide) rfl)
                      have t_165 : (M78.2.1 82 (x3.toInt).toNat).toInt = (N.2.1 82 (x3.toInt).toNat).toInt := congrArg Int32.toInt (F_n F75 (show ¬ (82 < 0) by decide) rfl)
                      have t_166 : (M78.2.1 83 (x3.toInt).toNat).toInt = (N.2.1 83 (x3.toInt).toNat).toInt := congrArg Int32.toInt (F_n F75 (show ¬ (83 < 0) by decide) rfl)
                      have s_167 : PV M78 (x4.toInt).toNat = PV N (x4.toInt).toNat := PV_f _ (fun i z => (F_n F75 (show ¬ (118 < 0) by decide) rfl))
                      have j_168 := (PLk_f (tg_101 F75) g11)
                      have c_169 : M78.2.1 77 28 = (N.2.1 77 28) := (F_n F75 (show ¬ (77 < 0) by decide) rfl)
                      have t_170 : (M78.2.1 77 28).toInt = (N.2.1 77 28).toInt := congrArg Int32.toInt c_169
                      have kn_171 : KST M78 96 98 97 95 ca sg (x_kn sg NN (n.toInt).toNat) := KST_f (fun i => (F_nl F75 (show ¬ (96 < 0) by decide) rfl)) (fun i => (F_n F75 (show ¬ (98 < 0) by decide) rfl)) (fun i => (F_n F75 (show ¬ (97 < 0) by decide) rfl)) (fun i => (F_nl F75 (show ¬ (95 < 0) by decide) rfl)) g19
                      exact ih.2.2.1 M78 (u1) x3 x4 x5 x6 x7 (.int x8) (.int r74) (.int (0 : Int32)) (.int (0 : Int32)) v161 (u13) hG76 F79 (by omega) (by omega) (by omega) (by omega) (by omega) (by omega) (by omega) (by omega) (by omega) (by omega) (fun i z => by have z2 := g10 i z; rw [(F_n F75 (show ¬ (118 < 0) by decide) rfl)]; omega) j_168 (by omega) (by omega) (by omega) (by omega) (by omega) (by omega) (by omega) kn_171 (SA_f (fun i => (F_n F75 (show ¬ (118 < 0) by decide) rfl)) g22) (LA_f (fun i => (F_n F75 (show ¬ (118 < 0) by decide) rfl)) (RL_n (sr := 0) g23 g22 z_72 z_80 (Or.inl (by omega)) (by omega) (by omega) rfl rfl rfl)) (fun m h1 h2 => by omega) (by omega)
                    · refine to_i (pc := 189) rw_237_189 rfl (to_i (pc := 191) rw_237_191 rfl (b_cge (pc := 193) rw_237_193 (A := x8.toInt) (B := x5.toInt) rfl rfl (fun h172 => ?_) (fun h172 => ?_)))
                      · refine to_c (pc := 200) rw_237_200 (x := (0 : Int32)) rfl rfl (to_is (pc := 201) rw_237_201 (ls2 := [.ref 77, u1, .int w, .int x3, .int x4, .int x5, .int x6, .int x7, .int x8, .int r74, .int (0 : Int32), .int (0 : Int32), u12, u13]) rfl rfl (to_i (pc := 203) rw_237_203 rfl (b_ieq_t (pc := 205) rw_237_205 (A := 0) rfl (by decide) (to_i (pc := 220) rw_237_220 rfl (to_c (pc := 222) rw_237_222 (x := (1 : Int32)) rfl rfl (s_sub (pc := 223) rw_237_223 (A := x4.toInt) (B := 1) rfl rfl (by omega) (fun v173 e174 => to_is (pc := 224) rw_237_224 (ls2 := [.ref 77, u1, .int w, .int x3, .int x4, .int x5, .int x6, .int x7, .int x8, .int r74, .int (0 : Int32), .int (0 : Int32), .int v173, u13]) rfl rfl ?_)))))))
                        have t_175 : (M78.2.1 83 (x3.toInt).toNat).toInt = (N.2.1 83 (x3.toInt).toNat).toInt := congrArg Int32.toInt (F_n F75 (show ¬ (83 < 0) by decide) rfl)
                        have t_176 : (M78.2.1 82 (x3.toInt).toNat).toInt = (N.2.1 82 (x3.toInt).toNat).toInt := congrArg Int32.toInt (F_n F75 (show ¬ (82 < 0) by decide) rfl)
                        have t_177 : (M78.2.1 82 (x3.toInt).toNat).toInt = (N.2.1 82 (x3.toInt).toNat).toInt := congrArg Int32.toInt (F_n F75 (show ¬ (82 < 0) by decide) rfl)
                        have t_178 : (M78.2.1 83 (x3.toInt).toNat).toInt = (N.2.1 83 (x3.toInt).toNat).toInt := congrArg Int32.toInt (F_n F75 (show ¬ (83 < 0) by decide) rfl)
                        have s_179 : PV M78 (x4.toInt).toNat = PV N (x4.toInt).toNat := PV_f _ (fun i z => (F_n F75 (show ¬ (118 < 0) by decide) rfl))
                        have j_180 := (PLk_f (tg_101 F75) g11)
                        have c_181 : M78.2.1 77 28 = (N.2.1 77 28) := (F_n F75 (show ¬ (77 < 0) by decide) rfl)
                        have t_182 : (M78.2.1 77 28).toInt = (N.2.1 77 28).toInt := congrArg Int32.toInt c_181
                        have kn_183 : KST M78 96 98 97 95 ca sg (x_kn sg NN (n.toInt).toNat) := KST_f (fun i => (F_nl F75 (show ¬ (96 < 0) by decide) rfl)) (fun i => (F_n F75 (show ¬ (98 < 0) by decide) rfl)) (fun i => (F_n F75 (show ¬ (97 < 0) by decide) rfl)) (fun i => (F_nl F75 (show ¬ (95 < 0) by decide) rfl)) g19
                        exact ih.2.2.1 M78 (u1) x3 x4 x5 x6 x7 (.int x8) (.int r74) (.int (0 : Int32)) (.int (0 : Int32)) v173 (u13) hG76 F79 (by omega) (by omega) (by omega) (by omega) (by omega) (by omega) (by omega) (by omega) (by omega) (by omega) (fun i z => by have z2 := g10 i z; rw [(F_n F75 (show ¬ (118 < 0) by decide) rfl)]; omega) j_180 (by omega) (by omega) (by omega) (by omega) (by omega) (by omega) (by omega) kn_183 (SA_f (fun i => (F_n F75 (show ¬ (118 < 0) by decide) rfl)) g22) (LA_f (fun i => (F_n F75 (show ¬ (118 < 0) by decide) rfl)) (RL_n (sr := 0) g23 g22 z_72 z_80 (Or.inl (by omega)) (by omega) (by omega) rfl rfl rfl)) (fun m h1 h2 => by omega) (by omega)
                      · refine to_c (pc := 196) rw_237_196 (x := (1 : Int32)) rfl rfl (to_go (pc := 197) rw_237_197 (to_is (pc := 201) rw_237_201 (ls2 := [.ref 77, u1, .int w, .int x3, .int x4, .int x5, .int x6, .int x7, .int x8, .int r74, .int (0 : Int32), .int (1 : Int32), u12, u13]) rfl rfl (to_i (pc := 203) rw_237_203 rfl (b_ieq_f (pc := 205) rw_237_205 (A := 1) rfl (by decide) (to_i (pc := 208) rw_237_208 rfl (to_is (pc := 210) rw_237_210 (ls2 := [.ref 77, u1, .int w, .int x3, .int x4, .int x8, .int x6, .int x7, .int x8, .int r74, .int (0 : Int32), .int (1 : Int32), u12, u13]) rfl rfl (to_i (pc := 212) rw_237_212 rfl (to_is (pc := 214) rw_237_214 (ls2 := [.ref 77, u1, .int w, .int x3, .int x4, .int x8, .int r74, .int x7, .int x8, .int r74, .int (0 : Int32), .int (1 : Int32), u12, u13]) rfl rfl (to_i (pc := 216) rw_237_216 rfl (to_is (pc := 218) rw_237_218 (ls2 := [.ref 77, u1, .int w, .int x3, .int x4, .int x8, .int r74, .int (0 : Int32), .int x8, .int r74, .int (0 : Int32), .int (1 : Int32), u12, u13]) rfl rfl (to_i (pc := 220) rw_237_220 rfl ?_)))))))))))
                        refine to_c (pc := 222) rw_237_222 (x := (1 : Int32)) rfl rfl (s_sub (pc := 223) rw_237_223 (A := x4.toInt) (B := 1) rfl rfl (by omega) (fun v184 e185 => to_is (pc := 224) rw_237_224 (ls2 := [.ref 77, u1, .int w, .int x3, .int x4, .int x8, .int r74, .int (0 : Int32), .int x8, .int r74, .int (0 : Int32), .int (1 : Int32), .int v184, u13]) rfl rfl ?_))
                        have k_186 : (0 : Int32).toInt = 0 := rfl
                        have t_187 : (M78.2.1 83 (x3.toInt).toNat).toInt = (N.2.1 83 (x3.toInt).toNat).toInt := congrArg Int32.toInt (F_n F75 (show ¬ (83 < 0) by decide) rfl)
                        have t_188 : (M78.2.1 82 (x3.toInt).toNat).toInt = (N.2.1 82 (x3.toInt).toNat).toInt := congrArg Int32.toInt (F_n F75 (show ¬ (82 < 0) by decide) rfl)
                        have t_189 : (M78.2.1 82 (x3.toInt).toNat).toInt = (N.2.1 82 (x3.toInt).toNat).toInt := congrArg Int32.toInt (F_n F75 (show ¬ (82 < 0) by decide) rfl)
                        have t_190 : (M78.2.1 83 (x3.toInt).toNat).toInt = (N.2.1 83 (x3.toInt).toNat).toInt := congrArg Int32.toInt (F_n F75 (show ¬ (83 < 0) by decide) rfl)
                        have s_191 : PV M78 (x4.toInt).toNat = PV N (x4.toInt).toNat := PV_f _ (fun i z => (F_n F75 (show ¬ (118 < 0) by decide) rfl))
                        have j_192 := (PLk_f (tg_101 F75) g11)
                        have c_193 : M78.2.1 77 28 = (N.2.1 77 28) := (F_n F75 (show ¬ (77 < 0) by decide) rfl)
                        have t_194 : (M78.2.1 77 28).toInt = (N.2.1 77 28).toInt := congrArg Int32.toInt c_193
                        have kn_195 : KST M78 96 98 97 95 ca sg (x_kn sg NN (n.toInt).toNat) := KST_f (fun i => (F_nl F75 (show ¬ (96 < 0) by decide) rfl)) (fun i => (F_n F75 (show ¬ (98 < 0) by decide) rfl)) (fun i => (F_n F75 (show ¬ (97 < 0) by decide) rfl)) (fun i => (F_nl F75 (show ¬ (95 < 0) by decide) rfl)) g19
                        exact ih.2.2.1 M78 (u1) x3 x4 x8 r74 (0 : Int32) (.int x8) (.int r74) (.int (0 : Int32)) (.int (1 : Int32)) v184 (u13) hG76 F79 (by omega) (by omega) (by omega) (by omega) (by omega) (by omega) (by omega) (by omega) (by omega) (by omega) (fun i z => by have z2 := g10 i z; rw [(F_n F75 (show ¬ (118 < 0) by decide) rfl)]; omega) j_192 (by omega) (by omega) (by omega) (by omega) (by omega) (by omega) (by omega) kn_195 (SA_f (fun i => (F_n F75 (show ¬ (118 < 0) by decide) rfl)) g22) (by exfalso; omega) (fun m h1 h2 => by omega) (by omega)
          · refine to_an (pc := 137) rw_237_137 rfl (to_in (pc := 138) rw_237_138 rfl (to_an (pc := 139) rw_237_139 rfl (to_in (pc := 140) rw_237_140 rfl (to_i (pc := 141) rw_237_141 rfl (s_v (pc := 143) rw_237_143 (dp0 hd (by decide)) (ls0 := [.ref 77, .int w, .int x8]) rfl (Nat.le_of_ble_eq_true rfl) (Nat.le_of_ble_eq_true rfl) rfl (to_rc rfl rfl rfl (g_o hG76 rfl)) rfl (to_in (pc := 0) rw_188_0 rfl (to_i2l (pc := 1) rw_188_1 (v := (x8.toInt64)) rfl (to_an (pc := 2) rw_188_2 rfl (s_gR (pc := 3) rw_188_3 hG76 rfl (v := 82) rfl (to_an (pc := 6) rw_188_6 rfl (s_gR (pc := 7) rw_188_7 hG76 rfl (v := 86) rfl ?_)))))))))))
            refine to_in (pc := 10) rw_188_10 rfl (s_ialk (pc := 11) rw_188_11 hG76 rfl (n := 24) rfl rfl (A := w.toInt) rfl (by omega) (by omega) (v := v62) (F_n F75 (show ¬ (86 < 0) by decide) w_63) (s_ialk (pc := 12) rw_188_12 hG76 rfl (n := 16) rfl rfl (A := v62.toInt) rfl (by omega) (by omega) (v := v67) (F_n F75 (show ¬ (82 < 0) by decide) w_68) (to_2s (pc := 13) rw_188_13 (v := ((x8.toInt64) <<< (v67.toInt64 &&& 63))) rfl (to_rl (pc := 14) rw_188_14 (s_v (pc := 146) rw_237_146 (dp0 hd (by decide)) (ls0 := [.ref 77, .int w, .long ((x8.toInt64) <<< (v67.toInt64 &&& 63)), .null, .null, .null]) rfl (Nat.le_of_ble_eq_true rfl) (Nat.le_of_ble_eq_true rfl) rfl (to_rc rfl rfl rfl (g_o hG76 rfl)) rfl ?_)))))
            have z_200 : ((x8.toInt64) <<< (v67.toInt64 &&& 63)) = x_wd x8 (x_fF sg w.toInt) := by rw [x_sh_e (h := x_fF sg w.toInt) (show v67.toInt = x_fF sg w.toInt by omega)]; rfl
            have z_201 := RW_nn g22 (by omega) (by omega) (by omega) z_72 z_200
            have j_202 := (PLk_f (tg_101 F75) g11)
            have kn_203 : KST M78 96 98 97 95 ca sg (x_kn sg NN (n.toInt).toNat) := KST_f (fun i => (F_nl F75 (show ¬ (96 < 0) by decide) rfl)) (fun i => (F_n F75 (show ¬ (98 < 0) by decide) rfl)) (fun i => (F_n F75 (show ¬ (97 < 0) by decide) rfl)) (fun i => (F_nl F75 (show ¬ (95 < 0) by decide) rfl)) g19
            refine E_236 hX (dp1 hd (by decide)) hG76 (by omega) (by omega) (by omega) j_202 kn_203 (w := w) (x := ((x8.toInt64) <<< (v67.toInt64 &&& 63))) (sg := sg) (ca := ca) (K := (x_kn sg NN (n.toInt).toNat)) (fun r204 M208 hG206 F205 p_207 => ?_)
            have F209 := FR.c F79 F205 tg_147
            have z_210 := RW_S (s := sg) (Q := (x_kn sg NN (n.toInt).toNat)) (w := w.toInt) g22 (by omega) (by omega) (by omega) z_72 z_200 p_207
            refine to_go (pc := 149) rw_237_149 (to_is (pc := 153) rw_237_153 (ls2 := [.ref 77, u1, .int w, .int x3, .int x4, .int x5, .int x6, .int x7, .int x8, .int r74, .int r204, u11, u12, u13]) rfl rfl (to_i (pc := 155) rw_237_155 rfl (to_c (pc := 157) rw_237_157 (x := (-1 : Int32)) rfl rfl (b_ceq (pc := 158) rw_237_158 (A := x5.toInt) (B := -1) rfl rfl (fun h211 => ?_) (fun h211 => ?_)))))
            · refine to_c (pc := 196) rw_237_196 (x := (1 : Int32)) rfl rfl (to_go (pc := 197) rw_237_197 (to_is (pc := 201) rw_237_201 (ls2 := [.ref 77, u1, .int w, .int x3, .int x4, .int x5, .int x6, .int x7, .int x8, .int r74, .int r204, .int (1 : Int32), u12, u13]) rfl rfl (to_i (pc := 203) rw_237_203 rfl (b_ieq_f (pc := 205) rw_237_205 (A := 1) rfl (by decide) (to_i (pc := 208) rw_237_208 rfl (to_is (pc := 210) rw_237_210 (ls2 := [.ref 77, u1, .int w, .int x3, .int x4, .int x8, .int x6, .int x7, .int x8, .int r74, .int r204, .int (1 : Int32), u12, u13]) rfl rfl (to_i (pc := 212) rw_237_212 rfl (to_is (pc := 214) rw_237_214 (ls2 := [.ref 77, u1, .int w, .int x3, .int x4, .int x8, .int r74, .int x7, .int x8, .int r74, .int r204, .int (1 : Int32), u12, u13]) rfl rfl (to_i (pc := 216) rw_237_216 rfl (to_is (pc := 218) rw_237_218 (ls2 := [.ref 77, u1, .int w, .int x3, .int x4, .int x8, .int r74, .int r204, .int x8, .int r74, .int r204, .int (1 : Int32), u12, u13]) rfl rfl (to_i (pc := 220) rw_237_220 rfl ?_)))))))))))
              refine to_c (pc := 222) rw_237_222 (x := (1 : Int32)) rfl rfl (s_sub (pc := 223) rw_237_223 (A := x4.toInt) (B := 1) rfl rfl (by omega) (fun v212 e213 => to_is (pc := 224) rw_237_224 (ls2 := [.ref 77, u1, .int w, .int x3, .int x4, .int x8, .int r74, .int r204, .int x8, .int r74, .int r204, .int (1 : Int32), .int v212, u13]) rfl rfl ?_))
              have t_214 : (M208.2.1 83 (x3.toInt).toNat).toInt = (N.2.1 83 (x3.toInt).toNat).toInt := congrArg Int32.toInt (F_n F205 (show ¬ (83 < 0) by decide) (F_n F75 (show ¬ (83 < 0) by decide) rfl))
              have t_215 : (M208.2.1 82 (x3.toInt).toNat).toInt = (N.2.1 82 (x3.toInt).toNat).toInt := congrArg Int32.toInt (F_n F205 (show ¬ (82 < 0) by decide) (F_n F75 (show ¬ (82 < 0) by decide) rfl))
              have t_216 : (M208.2.1 82 (x3.toInt).toNat).toInt = (N.2.1 82 (x3.toInt).toNat).toInt := congrArg Int32.toInt (F_n F205 (show ¬ (82 < 0) by decide) (F_n F75 (show ¬ (82 < 0) by decide) rfl))
              have t_217 : (M208.2.1 83 (x3.toInt).toNat).toInt = (N.2.1 83 (x3.toInt).toNat).toInt := congrArg Int32.toInt (F_n F205 (show ¬ (83 < 0) by decide) (F_n F75 (show ¬ (83 < 0) by decide) rfl))
              have s_218 : PV M208 (x4.toInt).toNat = PV N (x4.toInt).toNat := PV_f _ (fun i z => (F_n F205 (show ¬ (118 < 0) by decide) (F_n F75 (show ¬ (118 < 0) by decide) rfl)))
              have j_219 := (PLk_f (tg_101 F205) j_202)
              have c_220 : M208.2.1 77 28 = (N.2.1 77 28) := (F_n F205 (show ¬ (77 < 0) by decide) (F_n F75 (show ¬ (77 < 0) by decide) rfl))
              have t_221 : (M208.2.1 77 28).toInt = (N.2.1 77 28).toInt := congrArg Int32.toInt c_220
              have kn_222 : KST M208 96 98 97 95 ca sg (x_kn sg NN (n.toInt).toNat) := KST_f (fun i => (F_nl F205 (show ¬ (96 < 0) by decide) rfl)) (fun i => (F_n F205 (show ¬ (98 < 0) by decide) rfl)) (fun i => (F_n F205 (show ¬ (97 < 0) by decide) rfl)) (fun i => (F_nl F205 (show ¬ (95 < 0) by decide) rfl)) kn_203
              exact ih.2.2.1 M208 (u1) x3 x4 x8 r74 r204 (.int x8) (.int r74) (.int r204) (.int (1 : Int32)) v212 (u13) hG206 F209 (by omega) (by omega) (by omega) (by omega) (by omega) (by omega) (by omega) (by omega) (by omega) (by omega) (fun i z => by have z2 := g10 i z; rw [(F_n F205 (show ¬ (118 < 0) by decide) (F_n F75 (show ¬ (118 < 0) by decide) rfl))]; omega) j_219 (by omega) (by omega) (by omega) (by omega) (by omega) (by omega) (by omega) kn_222 (SA_f (fun i => (F_n F205 (show ¬ (118 < 0) by decide) (F_n F75 (show ¬ (118 < 0) by decide) rfl))) g22) (LA_f (fun i => (F_n F205 (show ¬ (118 < 0) by decide) (F_n F75 (show ¬ (118 < 0) by decide) rfl))) (RL_y g23 g22 (by omega) z_72 z_80 z_210 (by omega) rfl rfl rfl)) (fun m h1 h2 => by omega) (by omega)
            · refine to_i (pc := 161) rw_237_161 rfl (to_i (pc := 163) rw_237_163 rfl (b_clt (pc := 165) rw_237_165 (A := r74.toInt) (B := x6.toInt) rfl rfl (fun h223 => ?_) (fun h223 => ?_)))
              · refine to_c (pc := 196) rw_237_196 (x := (1 : Int32)) rfl rfl (to_go (pc := 197) rw_237_197 (to_is (pc := 201) rw_237_201 (ls2 := [.ref 77, u1, .int w, .int x3, .int x4, .int x5, .int x6, .int x7, .int x8, .int r74, .int r204, .int (1 : Int32), u12, u13]) rfl rfl (to_i (pc := 203) rw_237_203 rfl (b_ieq_f (pc := 205) rw_237_205 (A := 1) rfl (by decide) (to_i (pc := 208) rw_237_208 rfl (to_is (pc := 210) rw_237_210 (ls2 := [.ref 77, u1, .int w, .int x3, .int x4, .int x8, .int x6, .int x7, .int x8, .int r74, .int r204, .int (1 : Int32), u12, u13]) rfl rfl (to_i (pc := 212) rw_237_212 rfl (to_is (pc := 214) rw_237_214 (ls2 := [.ref 77, u1, .int w, .int x3, .int x4, .int x8, .int r74, .int x7, .int x8, .int r74, .int r204, .int (1 : Int32), u12, u13]) rfl rfl (to_i (pc := 216) rw_237_216 rfl (to_is (pc := 218) rw_237_218 (ls2 := [.ref 77, u1, .int w, .int x3, .int x4, .int x8, .int r74, .int r204, .int x8, .int r74, .int r204, .int (1 : Int32), u12, u13]) rfl rfl (to_i (pc := 220) rw_237_220 rfl ?_)))))))))))
                refine to_c (pc := 222) rw_237_222 (x := (1 : Int32)) rfl rfl (s_sub (pc := 223) rw_237_223 (A := x4.toInt) (B := 1) rfl rfl (by omega) (fun v224 e225 => to_is (pc := 224) rw_237_224 (ls2 := [.ref 77, u1, .int w, .int x3, .int x4, .int x8, .int r74, .int r204, .int x8, .int r74, .int r204, .int (1 : Int32), .int v224, u13]) rfl rfl ?_))
                have t_226 : (M208.2.1 83 (x3.toInt).toNat).toInt = (N.2.1 83 (x3.toInt).toNat).toInt := congrArg Int32.toInt (F_n F205 (show ¬ (83 < 0) by decide) (F_n F75 (show ¬ (83 < 0) by decide) rfl))
                have t_227 : (M208.2.1 82 (x3.toInt).toNat).toInt = (N.2.1 82 (x3.toInt).toNat).toInt := congrArg Int32.toInt (F_n F205 (show ¬ (82 < 0) by decide) (F_n F75 (show ¬ (82 < 0) by decide) rfl))
                have t_228 : (M208.2.1 82 (x3.toInt).toNat).toInt = (N.2.1 82 (x3.toInt).toNat).toInt := congrArg Int32.toInt (F_n F205 (show ¬ (82 < 0) by decide) (F_n F75 (show ¬ (82 < 0) by decide) rfl))
                have t_229 : (M208.2.1 83 (x3.toInt).toNat).toInt = (N.2.1 83 (x3.toInt).toNat).toInt := congrArg Int32.toInt (F_n F205 (show ¬ (83 < 0) by decide) (F_n F75 (show ¬ (83 < 0) by decide) rfl))
                have s_230 : PV M208 (x4.toInt).toNat = PV N (x4.toInt).toNat := PV_f _ (fun i z => (F_n F205 (show ¬ (118 < 0) by decide) (F_n F75 (show ¬ (118 < 0) by decide) rfl)))
                have j_231 := (PLk_f (tg_101 F205) j_202)
                have c_232 : M208.2.1 77 28 = (N.2.1 77 28) := (F_n F205 (show ¬ (77 < 0) by decide) (F_n F75 (show ¬ (77 < 0) by decide) rfl))
                have t_233 : (M208.2.1 77 28).toInt = (N.2.1 77 28).toInt := congrArg Int32.toInt c_232
                have kn_234 : KST M208 96 98 97 95 ca sg (x_kn sg NN (n.toInt).toNat) := KST_f (fun i => (F_nl F205 (show ¬ (96 < 0) by decide) rfl)) (fun i => (F_n F205 (show ¬ (98 < 0) by decide) rfl)) (fun i => (F_n F205 (show ¬ (97 < 0) by decide) rfl)) (fun i => (F_nl F205 (show ¬ (95 < 0) by decide) rfl)) kn_203
                exact ih.2.2.1 M208 (u1) x3 x4 x8 r74 r204 (.int x8) (.int r74) (.int r204) (.int (1 : Int32)) v224 (u13) hG206 F209 (by omega) (by omega) (by omega) (by omega) (by omega) (by omega) (by omega) (by omega) (by omega) (by omega) (fun i z => by have z2 := g10 i z; rw [(F_n F205 (show ¬ (118 < 0) by decide) (F_n F75 (show ¬ (118 < 0) by decide) rfl))]; omega) j_231 (by omega) (by omega) (by omega) (by omega) (by omega) (by omega) (by omega) kn_234 (SA_f (fun i => (F_n F205 (show ¬ (118 < 0) by decide) (F_n F75 (show ¬ (118 < 0) by decide) rfl))) g22) (LA_f (fun i => (F_n F205 (show ¬ (118 < 0) by decide) (F_n F75 (show ¬ (118 < 0) by decide) rfl))) (RL_y g23 g22 (by omega) z_72 z_80 z_210 (by omega) rfl rfl rfl)) (fun m h1 h2 => by omega) (by omega)
              · refine to_i (pc := 168) rw_237_168 rfl (to_i (pc := 170) rw_237_170 rfl (b_cne (pc := 172) rw_237_172 (A := r74.toInt) (B := x6.toInt) rfl rfl (fun h235 => ?_) (fun h235 => ?_)))
                · refine to_c (pc := 200) rw_237_200 (x := (0 : Int32)) rfl rfl (to_is (pc := 201) rw_237_201 (ls2 := [.ref 77, u1, .int w, .int x3, .int x4, .int x5, .int x6, .int x7, .int x8, .int r74, .int r204, .int (0 : Int32), u12, u13]) rfl rfl (to_i (pc := 203) rw_237_203 rfl (b_ieq_t (pc := 205) rw_237_205 (A := 0) rfl (by decide) (to_i (pc := 220) rw_237_220 rfl (to_c (pc := 222) rw_237_222 (x := (1 : Int32)) rfl rfl (s_sub (pc := 223) rw_237_223 (A := x4.toInt) (B := 1) rfl rfl (by omega) (fun v236 e237 => to_is (pc := 224) rw_237_224 (ls2 := [.ref 77, u1, .int w, .int x3, .int x4, .int x5, .int x6, .int x7, .int x8, .int r74, .int r204, .int (0 : Int32), .int v236, u13]) rfl rfl ?_)))))))
                  have t_238 : (M208.2.1 83 (x3.toInt).toNat).toInt = (N.2.1 83 (x3.toInt).toNat).toInt := congrArg Int32.toInt (F_n F205 (show ¬ (83 < 0) by decide) (F_n F75 (show ¬ (83 < 0) by decide) rfl))
                  have t_239 : (M208.2.1 82 (x3.toInt).toNat).toInt = (N.2.1 82 (x3.toInt).toNat).toInt := congrArg Int32.toInt (F_n F205 (show ¬ (82 < 0) by decide) (F_n F75 (show ¬ (82 < 0) by decide) rfl))
                  have t_240 : (M208.2.1 82 (x3.toInt).toNat).toInt = (N.2.1 82 (x3.toInt).toNat).toInt := congrArg Int32.toInt (F_n F205 (show ¬ (82 < 0) by decide) (F_n F75 (show ¬ (82 < 0) by decide) rfl))
                  have t_241 : (M208.2.1 83 (x3.toInt).toNat).toInt = (N.2.1 83 (x3.toInt).toNat).toInt := congrArg Int32.toInt (F_n F205 (show ¬ (83 < 0) by decide) (F_n F75 (show ¬ (83 < 0) by decide) rfl))
                  have s_242 : PV M208 (x4.toInt).toNat = PV N (x4.toInt).toNat := PV_f _ (fun i z => (F_n F205 (show ¬ (118 < 0) by decide) (F_n F75 (show ¬ (118 < 0) by decide) rfl)))
                  have j_243 := (PLk_f (tg_101 F205) j_202)
                  have c_244 : M208.2.1 77 28 = (N.2.1 77 28) := (F_n F205 (show ¬ (77 < 0) by decide) (F_n F75 (show ¬ (77 < 0) by decide) rfl))
                  have t_245 : (M208.2.1 77 28).toInt = (N.2.1 77 28).toInt := congrArg Int32.toInt c_244
                  have kn_246 : KST M208 96 98 97 95 ca sg (x_kn sg NN (n.toInt).toNat) := KST_f (fun i => (F_nl F205 (show ¬ (96 < 0) by decide) rfl)) (fun i => (F_n F205 (show ¬ (98 < 0) by decide) rfl)) (fun i => (F_n F205 (show ¬ (97 < 0) by decide) rfl)) (fun i => (F_nl F205 (show ¬ (95 < 0) by decide) rfl)) kn_203
                  exact ih.2.2.1 M208 (u1) x3 x4 x5 x6 x7 (.int x8) (.int r74) (.int r204) (.int (0 : Int32)) v236 (u13) hG206 F209 (by omega) (by omega) (by omega) (by omega) (by omega) (by omega) (by omega) (by omega) (by omega) (by omega) (fun i z => by have z2 := g10 i z; rw [(F_n F205 (show ¬ (118 < 0) by decide) (F_n F75 (show ¬ (118 < 0) by decide) rfl))]; omega) j_243 (by omega) (by omega) (by omega) (by omega) (by omega) (by omega) (by omega) kn_246 (SA_f (fun i => (F_n F205 (show ¬ (118 < 0) by decide) (F_n F75 (show ¬ (118 < 0) by decide) rfl))) g22) (LA_f (fun i => (F_n F205 (show ¬ (118 < 0) by decide) (F_n F75 (show ¬ (118 < 0) by decide) rfl))) (RL_n g23 g22 z_72 z_80 (Or.inr z_210) (by omega) (by omega) rfl rfl rfl)) (fun m h1 h2 => by omega) (by omega)
                · refine to_i (pc := 175) rw_237_175 rfl (to_i (pc := 177) rw_237_177 rfl (b_clt (pc := 179) rw_237_179 (A := r204.toInt) (B := x7.toInt) rfl rfl (fun h247 => ?_) (fun h247 => ?_)))
                  · refine to_c (pc := 196) rw_237_196 (x := (1 : Int32)) rfl rfl (to_go (pc := 197) rw_237_197 (to_is (pc := 201) rw_237_201 (ls2 := [.ref 77, u1, .int w, .int x3, .int x4, .int x5, .int x6, .int x7, .int x8, .int r74, .int r204, .int (1 : Int32), u12, u13]) rfl rfl (to_i (pc := 203) rw_237_203 rfl (b_ieq_f (pc := 205) rw_237_205 (A := 1) rfl (by decide) (to_i (pc := 208) rw_237_208 rfl (to_is (pc := 210) rw_237_210 (ls2 := [.ref 77, u1, .int w, .int x3, .int x4, .int x8, .int x6, .int x7, .int x8, .int r74, .int r204, .int (1 : Int32), u12, u13]) rfl rfl (to_i (pc := 212) rw_237_212 rfl (to_is (pc := 214) rw_237_214 (ls2 := [.ref 77, u1, .int w, .int x3, .int x4, .int x8, .int r74, .int x7, .int x8, .int r74, .int r204, .int (1 : Int32), u12, u13]) rfl rfl (to_i (pc := 216) rw_237_216 rfl (to_is (pc := 218) rw_237_218 (ls2 := [.ref 77, u1, .int w, .int x3, .int x4, .int x8, .int r74, .int r204, .int x8, .int r74, .int r204, .int (1 : Int32), u12, u13]) rfl rfl (to_i (pc := 220) rw_237_220 rfl ?_)))))))))))
                    refine to_c (pc := 222) rw_237_222 (x := (1 : Int32)) rfl rfl (s_sub (pc := 223) rw_237_223 (A := x4.toInt) (B := 1) rfl rfl (by omega) (fun v248 e249 => to_is (pc := 224) rw_237_224 (ls2 := [.ref 77, u1, .int w, .int x3, .int x4, .int x8, .int r74, .int r204, .int x8, .int r74, .int r204, .int (1 : Int32), .int v248, u13]) rfl rfl ?_))
                    have t_250 : (M208.2.1 83 (x3.toInt).toNat).toInt = (N.2.1 83 (x3.toInt).toNat).toInt := congrArg Int32.toInt (F_n F205 (show ¬ (83 < 0) by decide) (F_n F75 (show ¬ (83 < 0) by decide) rfl))
                    have t_251 : (M208.2.1 82 (x3.toInt).toNat).toInt = (N.2.1 82 (x3.toInt).toNat).toInt := congrArg Int32.toInt (F_n F205 (show ¬ (82 < 0) by decide) (F_n F75 (show ¬ (82 < 0) by decide) rfl))
                    have t_252 : (M208.2.1 82 (x3.toInt).toNat).toInt = (N.2.1 82 (x3.toInt).toNat).toInt := congrArg Int32.toInt (F_n F205 (show ¬ (82 < 0) by decide) (F_n F75 (show ¬ (82 < 0) by decide) rfl))
                    have t_253 : (M208.2.1 83 (x3.toInt).toNat).toInt = (N.2.1 83 (x3.toInt).toNat).toInt := congrArg Int32.toInt (F_n F205 (show ¬ (83 < 0) by decide) (F_n F75 (show ¬ (83 < 0) by decide) rfl))
                    have s_254 : PV M208 (x4.toInt).toNat = PV N (x4.toInt).toNat := PV_f _ (fun i z => (F_n F205 (show ¬ (118 < 0) by decide) (F_n F75 (show ¬ (118 < 0) by decide) rfl)))
                    have j_255 := (PLk_f (tg_101 F205) j_202)
                    have c_256 : M208.2.1 77 28 = (N.2.1 77 28) := (F_n F205 (show ¬ (77 < 0) by decide) (F_n F75 (show ¬ (77 < 0) by decide) rfl))
                    have t_257 : (M208.2.1 77 28).toInt = (N.2.1 77 28).toInt := congrArg Int32.toInt c_256
                    have kn_258 : KST M208 96 98 97 95 ca sg (x_kn sg NN (n.toInt).toNat) := KST_f (fun i => (F_nl F205 (show ¬ (96 < 0) by decide) rfl)) (fun i => (F_n F205 (show ¬ (98 < 0) by decide) rfl)) (fun i => (F_n F205 (show ¬ (97 < 0) by decide) rfl)) (fun i => (F_nl F205 (show ¬ (95 < 0) by decide) rfl)) kn_203
                    exact ih.2.2.1 M208 (u1) x3 x4 x8 r74 r204 (.int x8) (.int r74) (.int r204) (.int (1 : Int32)) v248 (u13) hG206 F209 (by omega) (by omega) (by omega) (by omega) (by omega) (by omega) (by omega) (by omega) (by omega) (by omega) (fun i z => by have z2 := g10 i z; rw [(F_n F205 (show ¬ (118 < 0) by decide) (F_n F75 (show ¬ (118 < 0) by decide) rfl))]; omega) j_255 (by omega) (by omega) (by omega) (by omega) (by omega) (by omega) (by omega) kn_258 (SA_f (fun i => (F_n F205 (show ¬ (118 < 0) by decide) (F_n F75 (show ¬ (118 < 0) by decide) rfl))) g22) (LA_f (fun i => (F_n F205 (show ¬ (118 < 0) by decide) (F_n F75 (show ¬ (118 < 0) by decide) rfl))) (RL_y g23 g22 (by omega) z_72 z_80 z_210 (by omega) rfl rfl rfl)) (fun m h1 h2 => by omega) (by omega)
                  · refine to_i (pc := 182) rw_237_182 rfl (to_i (pc := 184) rw_237_184 rfl (b_cne (pc := 186) rw_237_186 (A := r204.toInt) (B := x7.toInt) rfl rfl (fun h259 => ?_) (fun h259 => ?_)))
                    · refine to_c (pc := 200) rw_237_200 (x := (0 : Int32)) rfl rfl (to_is (pc := 201) rw_237_201 (ls2 := [.ref 77, u1, .int w, .int x3, .int x4, .int x5, .int x6, .int x7, .int x8, .int r74, .int r204, .int (0 : Int32), u12, u13]) rfl rfl (to_i (pc := 203) rw_237_203 rfl (b_ieq_t (pc := 205) rw_237_205 (A := 0) rfl (by decide) (to_i (pc := 220) rw_237_220 rfl (to_c (pc := 222) rw_237_222 (x := (1 : Int32)) rfl rfl (s_sub (pc := 223) rw_237_223 (A := x4.toInt) (B := 1) rfl rfl (by omega) (fun v260 e261 => to_is (pc := 224) rw_237_224 (ls2 := [.ref 77, u1, .int w, .int x3, .int x4, .int x5, .int x6, .int x7, .int x8, .int r74, .int r204, .int (0 : Int32), .int v260, u13]) rfl rfl ?_)))))))
                      have t_262 : (M208.2.1 83 (x3.toInt).toNat).toInt = (N.2.1 83 (x3.toInt).toNat).toInt := congrArg Int32.toInt (F_n F205 (show ¬ (83 < 0) by decide) (F_n F75 (show ¬ (83 < 0) by decide) rfl))
                      have t_263 : (M208.2.1 82 (x3.toInt).toNat).toInt = (N.2.1 82 (x3.toInt).toNat).toInt := congrArg Int32.toInt (F_n F205 (show ¬ (82 < 0) by decide) (F_n F75 (show ¬ (82 < 0) by decide) rfl))
                      have t_264 : (M208.2.1 82 (x3.toInt).toNat).toInt = (N.2.1 82 (x3.toInt).toNat).toInt := congrArg Int32.toInt (F_n F205 (show ¬ (82 < 0) by decide) (F_n F75 (show ¬ (82 < 0) by decide) rfl))
                      have t_265 : (M208.2.1 83 (x3.toInt).toNat).toInt = (N.2.1 83 (x3.toInt).toNat).toInt := congrArg Int32.toInt (F_n F205 (show ¬ (83 < 0) by decide) (F_n F75 (show ¬ (83 < 0) by decide) rfl))
                      have s_266 : PV M208 (x4.toInt).toNat = PV N (x4.toInt).toNat := PV_f _ (fun i z => (F_n F205 (show ¬ (118 < 0) by decide) (F_n F75 (show ¬ (118 < 0) by decide) rfl)))
                      have j_267 := (PLk_f (tg_101 F205) j_202)
                      have c_268 : M208.2.1 77 28 = (N.2.1 77 28) := (F_n F205 (show ¬ (77 < 0) by decide) (F_n F75 (show ¬ (77 < 0) by decide) rfl))
                      have t_269 : (M208.2.1 77 28).toInt = (N.2.1 77 28).toInt := congrArg Int32.toInt c_268
                      have kn_270 : KST M208 96 98 97 95 ca sg (x_kn sg NN (n.toInt).toNat) := KST_f (fun i => (F_nl F205 (show ¬ (96 < 0) by decide) rfl)) (fun i => (F_n F205 (show ¬ (98 < 0) by decide) rfl)) (fun i => (F_n F205 (show ¬ (97 < 0) by decide) rfl)) (fun i => (F_nl F205 (show ¬ (95 < 0) by decide) rfl)) kn_203
                      exact ih.2.2.1 M208 (u1) x3 x4 x5 x6 x7 (.int x8) (.int r74) (.int r204) (.int (0 : Int32)) v260 (u13) hG206 F209 (by omega) (by omega) (by omega) (by omega) (by omega) (by omega) (by omega) (by omega) (by omega) (by omega) (fun i z => by have z2 := g10 i z; rw [(F_n F205 (show ¬ (118 < 0) by decide) (F_n F75 (show ¬ (118 < 0) by decide) rfl))]; omega) j_267 (by omega) (by omega) (by omega) (by omega) (by omega) (by omega) (by omega) kn_270 (SA_f (fun i => (F_n F205 (show ¬ (118 < 0) by decide) (F_n F75 (show ¬ (118 < 0) by decide) rfl))) g22) (LA_f (fun i => (F_n F205 (show ¬ (118 < 0) by decide) (F_n F75 (show ¬ (118 < 0) by decide) rfl))) (RL_n g23 g22 z_72 z_80 (Or.inr z_210) (by omega) (by omega) rfl rfl rfl)) (fun m h1 h2 => by omega) (by omega)
                    · refine to_i (pc := 189) rw_237_189 rfl (to_i (pc := 191) rw_237_191 rfl (b_cge (pc := 193) rw_237_193 (A := x8.toInt) (B := x5.toInt) rfl rfl (fun h271 => ?_) (fun h271 => ?_)))
                      · refine to_c (pc := 200) rw_237_200 (x := (0 : Int32)) rfl rfl (to_is (pc := 201) rw_237_201 (ls2 := [.ref 77, u1, .int w, .int x3, .int x4, .int x5, .int x6, .int x7, .int x8, .int r74, .int r204, .int (0 : Int32), u12, u13]) rfl rfl (to_i (pc := 203) rw_237_203 rfl (b_ieq_t (pc := 205) rw_237_205 (A := 0) rfl (by decide) (to_i (pc := 220) rw_237_220 rfl (to_c (pc := 222) rw_237_222 (x := (1 : Int32)) rfl rfl (s_sub (pc := 223) rw_237_223 (A := x4.toInt) (B := 1) rfl rfl (by omega) (fun v272 e273 => to_is (pc := 224) rw_237_224 (ls2 := [.ref 77, u1, .int w, .int x3, .int x4, .int x5, .int x6, .int x7, .int x8, .int r74, .int r204, .int (0 : Int32), .int v272, u13]) rfl rfl ?_)))))))
                        have t_274 : (M208.2.1 83 (x3.toInt).toNat).toInt = (N.2.1 83 (x3.toInt).toNat).toInt := congrArg Int32.toInt (F_n F205 (show ¬ (83 < 0) by decide) (F_n F75 (show ¬ (83 < 0) by decide) rfl))
                        have t_275 : (M208.2.1 82 (x3.toInt).toNat).toInt = (N.2.1 82 (x3.toInt).toNat).toInt := congrArg Int32.toInt (F_n F205 (show ¬ (82 < 0) by decide) (F_n F75 (show ¬ (82 < 0) by decide) rfl))
                        have t_276 : (M208.2.1 82 (x3.toInt).toNat).toInt = (N.2.1 82 (x3.toInt).toNat).toInt := congrArg Int32.toInt (F_n F205 (show ¬ (82 < 0) by decide) (F_n F75 (show ¬ (82 < 0) by decide) rfl))
                        have t_277 : (M208.2.1 83 (x3.toInt).toNat).toInt = (N.2.1 83 (x3.toInt).toNat).toInt := congrArg Int32.toInt (F_n F205 (show ¬ (83 < 0) by decide) (F_n F75 (show ¬ (83 < 0) by decide) rfl))
                        have s_278 : PV M208 (x4.toInt).toNat = PV N (x4.toInt).toNat := PV_f _ (fun i z => (F_n F205 (show ¬ (118 < 0) by decide) (F_n F75 (show ¬ (118 < 0) by decide) rfl)))
                        have j_279 := (PLk_f (tg_101 F205) j_202)
                        have c_280 : M208.2.1 77 28 = (N.2.1 77 28) := (F_n F205 (show ¬ (77 < 0) by decide) (F_n F75 (show ¬ (77 < 0) by decide) rfl))
                        have t_281 : (M208.2.1 77 28).toInt = (N.2.1 77 28).toInt := congrArg Int32.toInt c_280
                        have kn_282 : KST M208 96 98 97 95 ca sg (x_kn sg NN (n.toInt).toNat) := KST_f (fun i => (F_nl F205 (show ¬ (96 < 0) by decide) rfl)) (fun i => (F_n F205 (show ¬ (98 < 0) by decide) rfl)) (fun i => (F_n F205 (show ¬ (97 < 0) by decide) rfl)) (fun i => (F_nl F205 (show ¬ (95 < 0) by decide) rfl)) kn_203
                        exact ih.2.2.1 M208 (u1) x3 x4 x5 x6 x7 (.int x8) (.int r74) (.int r204) (.int (0 : Int32)) v272 (u13) hG206 F209 (by omega) (by omega) (by omega) (by omega) (by omega) (by omega) (by omega) (by omega) (by omega) (by omega) (fun i z => by have z2 := g10 i z; rw [(F_n F205 (show ¬ (118 < 0) by decide) (F_n F75 (show ¬ (118 < 0) by decide) rfl))]; omega) j_279 (by omega) (by omega) (by omega) (by omega) (by omega) (by omega) (by omega) kn_282 (SA_f (fun i => (F_n F205 (show ¬ (118 < 0) by decide) (F_n F75 (show ¬ (118 < 0) by decide) rfl))) g22) (LA_f (fun i => (F_n F205 (show ¬ (118 < 0) by decide) (F_n F75 (show ¬ (118 < 0) by decide) rfl))) (RL_n g23 g22 z_72 z_80 (Or.inr z_210) (by omega) (by omega) rfl rfl rfl)) (fun m h1 h2 => by omega) (by omega)
                      · refine to_c (pc := 196) rw_237_196 (x := (1 : Int32)) rfl rfl (to_go (pc := 197) rw_237_197 (to_is (pc := 201) rw_237_201 (ls2 := [.ref 77, u1, .int w, .int x3, .int x4, .int x5, .int x6, .int x7, .int x8, .int r74, .int r204, .int (1 : Int32), u12, u13]) rfl rfl (to_i (pc := 203) rw_237_203 rfl (b_ieq_f (pc := 205) rw_237_205 (A := 1) rfl (by decide) (to_i (pc := 208) rw_237_208 rfl (to_is (pc := 210) rw_237_210 (ls2 := [.ref 77, u1, .int w, .int x3, .int x4, .int x8, .int x6, .int x7, .int x8, .int r74, .int r204, .int (1 : Int32), u12, u13]) rfl rfl (to_i (pc := 212) rw_237_212 rfl (to_is (pc := 214) rw_237_214 (ls2 := [.ref 77, u1, .int w, .int x3, .int x4, .int x8, .int r74, .int x7, .int x8, .int r74, .int r204, .int (1 : Int32), u12, u13]) rfl rfl (to_i (pc := 216) rw_237_216 rfl (to_is (pc := 218) rw_237_218 (ls2 := [.ref 77, u1, .int w, .int x3, .int x4, .int x8, .int r74, .int r204, .int x8, .int r74, .int r204, .int (1 : Int32), u12, u13]) rfl rfl (to_i (pc := 220) rw_237_220 rfl ?_)))))))))))
                        refine to_c (pc := 222) rw_237_222 (x := (1 : Int32)) rfl rfl (s_sub (pc := 223) rw_237_223 (A := x4.toInt) (B := 1) rfl rfl (by omega) (fun v283 e284 => to_is (pc := 224) rw_237_224 (ls2 := [.ref 77, u1, .int w, .int x3, .int x4, .int x8, .int r74, .int r204, .int x8, .int r74, .int r204, .int (1 : Int32), .int v283, u13]) rfl rfl ?_))
                        have t_285 : (M208.2.1 83 (x3.toInt).toNat).toInt = (N.2.1 83 (x3.toInt).toNat).toInt := congrArg Int32.toInt (F_n F205 (show ¬ (83 < 0) by decide) (F_n F75 (show ¬ (83 < 0) by decide) rfl))
                        have t_286 : (M208.2.1 82 (x3.toInt).toNat).toInt = (N.2.1 82 (x3.toInt).toNat).toInt := congrArg Int32.toInt (F_n F205 (show ¬ (82 < 0) by decide) (F_n F75 (show ¬ (82 < 0) by decide) rfl))
                        have t_287 : (M208.2.1 82 (x3.toInt).toNat).toInt = (N.2.1 82 (x3.toInt).toNat).toInt := congrArg Int32.toInt (F_n F205 (show ¬ (82 < 0) by decide) (F_n F75 (show ¬ (82 < 0) by decide) rfl))
                        have t_288 : (M208.2.1 83 (x3.toInt).toNat).toInt = (N.2.1 83 (x3.toInt).toNat).toInt := congrArg Int32.toInt (F_n F205 (show ¬ (83 < 0) by decide) (F_n F75 (show ¬ (83 < 0) by decide) rfl))
                        have s_289 : PV M208 (x4.toInt).toNat = PV N (x4.toInt).toNat := PV_f _ (fun i z => (F_n F205 (show ¬ (118 < 0) by decide) (F_n F75 (show ¬ (118 < 0) by decide) rfl)))
                        have j_290 := (PLk_f (tg_101 F205) j_202)
                        have c_291 : M208.2.1 77 28 = (N.2.1 77 28) := (F_n F205 (show ¬ (77 < 0) by decide) (F_n F75 (show ¬ (77 < 0) by decide) rfl))
                        have t_292 : (M208.2.1 77 28).toInt = (N.2.1 77 28).toInt := congrArg Int32.toInt c_291
                        have kn_293 : KST M208 96 98 97 95 ca sg (x_kn sg NN (n.toInt).toNat) := KST_f (fun i => (F_nl F205 (show ¬ (96 < 0) by decide) rfl)) (fun i => (F_n F205 (show ¬ (98 < 0) by decide) rfl)) (fun i => (F_n F205 (show ¬ (97 < 0) by decide) rfl)) (fun i => (F_nl F205 (show ¬ (95 < 0) by decide) rfl)) kn_203
                        exact ih.2.2.1 M208 (u1) x3 x4 x8 r74 r204 (.int x8) (.int r74) (.int r204) (.int (1 : Int32)) v283 (u13) hG206 F209 (by omega) (by omega) (by omega) (by omega) (by omega) (by omega) (by omega) (by omega) (by omega) (by omega) (fun i z => by have z2 := g10 i z; rw [(F_n F205 (show ¬ (118 < 0) by decide) (F_n F75 (show ¬ (118 < 0) by decide) rfl))]; omega) j_290 (by omega) (by omega) (by omega) (by omega) (by omega) (by omega) (by omega) kn_293 (SA_f (fun i => (F_n F205 (show ¬ (118 < 0) by decide) (F_n F75 (show ¬ (118 < 0) by decide) rfl))) g22) (LA_f (fun i => (F_n F205 (show ¬ (118 < 0) by decide) (F_n F75 (show ¬ (118 < 0) by decide) rfl))) (RL_y g23 g22 (by omega) z_72 z_80 z_210 (by omega) rfl rfl rfl)) (fun m h1 h2 => by omega) (by omega)
      · refine to_i (pc := 90) rw_237_90 rfl (to_c (pc := 92) rw_237_92 (x := (1 : Int32)) rfl rfl (to_an (pc := 93) rw_237_93 rfl (s_gR (pc := 94) rw_237_94 hG rfl (v := 118) rfl (to_i (pc := 97) rw_237_97 rfl (s_ial (pc := 99) rw_237_99 hG rfl (n := 4) rfl rfl (A := x9.toInt) rfl (by omega) (by omega) (lo := 0) (hi := 63) rfl rfl (fun v294 w_295 _ _ => ?_))))))
        have z_296 : v294.toInt = (N.2.1 118 (x9.toInt).toNat).toInt := (congrArg Int32.toInt w_295).symm
        refine s_opE (pc := 100) rw_237_100 (w := (1 : Int32) <<< v294) rfl (fun v297 e298 => s_opE (pc := 101) rw_237_101 (w := x8 ||| v297) rfl (fun v299 e300 => to_is (pc := 102) rw_237_102 (ls2 := [.ref 77, u1, .int w, .int x3, .int x4, .int x5, .int x6, .int x7, .int v299, .int x9, u10, u11, u12, u13]) rfl rfl (s_inc (pc := 104) rw_237_104 (ls2 := fun v => [.ref 77, u1, .int w, .int x3, .int x4, .int x5, .int x6, .int x7, .int v299, .int v, u10, u11, u12, u13]) rfl rfl (fun _ => rfl) (A := x9.toInt) (B := 1) rfl rfl (by omega) (fun v301 e302 => to_go (pc := 107) rw_237_107 ?_))))
        exact ih.2.1 N (u1) x3 x4 x5 x6 x7 v299 v301 (u10) (u11) (u12) (u13) hG F0 (by omega) (by omega) (by omega) (by omega) (by omega) (by omega) (by omega) (by omega) (by omega) g10 g11 (by omega) (by omega) (by omega) (by omega) (by omega) (by omega) (by omega) g19 (by omega) (BR_s (n := x9.toInt) g21 (by omega) (by omega) e298 z_296 e300) g22 g23 (by omega)
    · intro N u1 x3 x4 x5 x6 x7 u8 u9 u10 u11 x12 u13 hG F0 g1 g2 g3 g4 g5 g6 g7 g8 g9 g10 g11 g12 g13 g14 g15 g16 g17 g18 g19 g20 g21 g22 g23 hm
      have b_303 := g_b hG (a := 77) (i := 28) (lo := 0) (hi := 30) rfl rfl
      have s_304 := PV_b hG (x4.toInt).toNat
      have s_305 := pw_4 (k := (x4.toInt).toNat) (by omega)
      have s_306 := g_b hG (a := 83) (i := (x3.toInt).toNat) (lo := 0) (hi := 63) rfl rfl
      have s_307 := g_b hG (a := 82) (i := (x3.toInt).toNat) (lo := 0) (hi := 59) rfl rfl
      have z_308 := g12.2.1
      have z_309 := g12.2.2.1
      have z_310 := g12.2.2.2.1
      have z_311 := g12.1
      have z_312 := z_311.1
      have z_313 := z_311.2.1
      have z_314 := z_311.2.2.1
      have z_315 := z_311.2.2.2.1
      have z_316 := z_311.2.2.2.2.1
      have z_317 := z_311.2.2.2.2.2.1
      have z_318 := g12.1.2.2.2.2.2.2.1 w.toInt (by omega) (by omega)
      have z_319 := g12.1.2.2.2.2.2.2.2 (x_row sg 7 w.toInt) (by omega) (by omega)
      have z_320 : x_fF sg w.toInt = x_row sg 3 (x_row sg 7 w.toInt) := rfl
      have z_321 : x_fW sg w.toInt = x_row sg 4 (x_row sg 7 w.toInt) - x_row sg 3 (x_row sg 7 w.toInt) + 1 := rfl
      have z_322 := x_fK_e (s := sg) (w := w.toInt) (by omega)
      have z_323 := PLk_r g12 3 82 rfl (by decide) (by decide) (k := x3.toInt) (by omega) (by omega) rfl
      have z_324 := x_row_v (s := sg) (r := 3) (x := x3.toInt) (y := (x_row sg 7 w.toInt)) (by omega)
      have z_325 := PLk_r g12 4 83 rfl (by decide) (by decide) (k := x3.toInt) (by omega) (by omega) rfl
      have z_326 := x_row_v (s := sg) (r := 4) (x := x3.toInt) (y := (x_row sg 7 w.toInt)) (by omega)
      refine to_i (pc := 226) rw_237_226 rfl (b_ilt (pc := 228) rw_237_228 (A := x12.toInt) rfl (fun h327 => ?_) (fun h327 => ?_))
      · refine to_i (pc := 258) rw_237_258 rfl (b_ige_f (pc := 260) rw_237_260 (A := x12.toInt) rfl (by omega) (to_i (pc := 263) rw_237_263 rfl (to_r0 (pc := 265) rw_237_265 ?_)))
        exact h x5 N hG F0 (x_best_y (by omega) (RL_x (k := x4.toInt) (by omega) g22 (fun m z => g23 m (by omega) z)))
      · refine to_an (pc := 231) rw_237_231 rfl (s_gR (pc := 232) rw_237_232 hG rfl (v := 118) rfl (to_i (pc := 235) rw_237_235 rfl (s_ial (pc := 237) rw_237_237 hG rfl (n := 4) rfl rfl (A := x12.toInt) rfl (by omega) (by omega) (lo := 0) (hi := 63) rfl rfl (fun v328 w_329 _ _ => ?_))))
        have s_330 := g11 (x12.toInt).toNat (by omega)
        rw [w_329] at s_330
        have s_331 := congrArg Int32.toInt w_329
        have z_332 : v328.toInt = (N.2.1 118 (x12.toInt).toNat).toInt := (congrArg Int32.toInt w_329).symm
        refine to_an (pc := 238) rw_237_238 rfl (to_in (pc := 239) rw_237_239 rfl (s_v (pc := 240) rw_237_240 (dp0 hd (by decide)) (ls0 := [.ref 77, .int x3]) rfl (Nat.le_of_ble_eq_true rfl) (Nat.le_of_ble_eq_true rfl) rfl (to_rc rfl rfl rfl (g_o hG rfl)) rfl (to_an (pc := 0) rw_197_0 rfl (s_gR (pc := 1) rw_197_1 hG rfl (v := 83) rfl (to_in (pc := 4) rw_197_4 rfl (s_ial (pc := 5) rw_197_5 hG rfl (n := 16) rfl rfl (A := x3.toInt) rfl (by omega) (by omega) (lo := 0) (hi := 63) rfl rfl (fun v333 w_334 _ _ => ?_)))))))
        have t_335 := congrArg Int32.toInt w_334
        have z_336 := PLk_r g12 4 83 rfl (by decide) (by decide) (k := x3.toInt) (by omega) (by omega) w_334
        have z_337 := x_row_v (s := sg) (r := 4) (x := x3.toInt) (y := (x_row sg 7 w.toInt)) (by omega)
        refine to_an (pc := 6) rw_197_6 rfl (s_gR (pc := 7) rw_197_7 hG rfl (v := 82) rfl (to_in (pc := 10) rw_197_10 rfl (s_ial (pc := 11) rw_197_11 hG rfl (n := 16) rfl rfl (A := x3.toInt) rfl (by omega) (by omega) (lo := 0) (hi := 59) rfl rfl (fun v338 w_339 _ _ => ?_))))
        have t_340 := congrArg Int32.toInt w_339
        have z_341 := PLk_r g12 3 82 rfl (by decide) (by decide) (k := x3.toInt) (by omega) (by omega) w_339
        have z_342 := x_row_v (s := sg) (r := 3) (x := x3.toInt) (y := (x_row sg 7 w.toInt)) (by omega)
        refine s_sub (pc := 12) rw_197_12 (A := v333.toInt) (B := v338.toInt) rfl rfl (by omega) (fun v343 e344 => to_c (pc := 13) rw_197_13 (x := (1 : Int32)) rfl rfl (s_add (pc := 14) rw_197_14 (A := v343.toInt) (B := 1) rfl rfl (by omega) (fun v345 e346 => to_r0 (pc := 15) rw_197_15 (to_i (pc := 243) rw_237_243 rfl (s_sub (pc := 245) rw_237_245 (A := v345.toInt) (B := x4.toInt) rfl rfl (by omega) (fun v347 e348 => to_i (pc := 246) rw_237_246 rfl (s_add (pc := 248) rw_237_248 (A := v347.toInt) (B := x12.toInt) rfl rfl (by omega) (fun v349 e350 => b_cne (pc := 249) rw_237_249 (A := v328.toInt) (B := v349.toInt) rfl rfl (fun h351 => ?_) (fun h351 => ?_)))))))))
        · refine to_i (pc := 258) rw_237_258 rfl (b_ige_t (pc := 260) rw_237_260 (A := x12.toInt) rfl (by omega) (to_an (pc := 266) rw_237_266 rfl (s_gR (pc := 267) rw_237_267 hG rfl (v := 118) rfl (to_i (pc := 270) rw_237_270 rfl (to_dup2 (pc := 272) rw_237_272 (s_ialk (pc := 273) rw_237_273 hG rfl (n := 4) rfl rfl (A := x12.toInt) rfl (by omega) (by omega) (v := v328) w_329 (to_c (pc := 274) rw_237_274 (x := (1 : Int32)) rfl rfl (s_add (pc := 275) rw_237_275 (A := v328.toInt) (B := 1) rfl rfl (by omega) (fun v354 e355 => s_ias (pc := 276) rw_237_276 hG rfl (n := 4) rfl (A := x12.toInt) rfl (by omega) (by omega) (fun M357 W356 => ?_))))))))))
          have hG358 := g_w hG W356 (A := v354.toInt) rfl (lo := 0) (hi := 63) rfl rfl (by omega) (by decide)
          have F359 := FR.w F0 W356 (show 118 = 77 ∧ (x12.toInt).toNat = 2 ∨ 94 ≤ 118 ∧ 118 ≤ 98 ∨ 118 = 118 by omega)
          refine to_i (pc := 277) rw_237_277 rfl (to_c (pc := 279) rw_237_279 (x := (1 : Int32)) rfl rfl (s_add (pc := 280) rw_237_280 (A := x12.toInt) (B := 1) rfl rfl (by omega) (fun v360 e361 => to_is (pc := 281) rw_237_281 (ls2 := [.ref 77, u1, .int w, .int x3, .int x4, .int x5, .int x6, .int x7, u8, u9, u10, u11, .int x12, .int v360]) rfl rfl ?_)))
          have t_362 : (M357.2.1 83 (x3.toInt).toNat).toInt = (N.2.1 83 (x3.toInt).toNat).toInt := congrArg Int32.toInt (W_n W356 (by omega) rfl)
          have t_363 : (M357.2.1 82 (x3.toInt).toNat).toInt = (N.2.1 82 (x3.toInt).toNat).toInt := congrArg Int32.toInt (W_n W356 (by omega) rfl)
          have t_364 : (M357.2.1 82 (x3.toInt).toNat).toInt = (N.2.1 82 (x3.toInt).toNat).toInt := congrArg Int32.toInt (W_n W356 (by omega) rfl)
          have t_365 : (M357.2.1 83 (x3.toInt).toNat).toInt = (N.2.1 83 (x3.toInt).toNat).toInt := congrArg Int32.toInt (W_n W356 (by omega) rfl)
          have s_366 : (M357.2.1 118 (x12.toInt).toNat).toInt = v354.toInt := congrArg Int32.toInt (W_e W356)
          have s_367 := PW_inc (M := N) (M1 := M357) hG (i := (x12.toInt).toNat) (k := (x4.toInt).toNat) (by omega) (fun i z => (W_n W356 (by omega) rfl)) (by rw [(W_e W356)]; omega)
          have s_368 : PW M357 (v360.toInt).toNat (x4.toInt).toNat = PW M357 ((x12.toInt).toNat + 1) (x4.toInt).toNat := by rw [show (v360.toInt).toNat = (x12.toInt).toNat + 1 by omega]
          have j_369 := (PLk_f (fun a i z => W_n W356 (tg_149 a i _ z) rfl) g12)
          have c_370 : M357.2.1 77 28 = (N.2.1 77 28) := (W_n W356 (fun z => absurd z.1 (by decide)) rfl)
          have t_371 : (M357.2.1 77 28).toInt = (N.2.1 77 28).toInt := congrArg Int32.toInt c_370
          have kn_372 : KST M357 96 98 97 95 ca sg (x_kn sg NN (n.toInt).toNat) := KST_f (fun i => (W_j W356 rfl)) (fun i => (W_n W356 (by omega) rfl)) (fun i => (W_n W356 (by omega) rfl)) (fun i => (W_j W356 rfl)) g20
          have z_373 := NX_0 (M := N) (M1 := M357) (s := sg) (w := w.toInt) (k := x4.toInt) (i := x12.toInt) (j := v360.toInt) (by omega) (by omega) (by omega) (by omega) g21 g23 (fun i e => (W_n W356 (by omega) rfl)) (by rw [(W_e W356)]; omega) (by omega)
          exact ih.2.2.2 M357 (u1) x3 x4 x5 x6 x7 (u8) (u9) (u10) (u11) (.int x12) v360 hG358 F359 (by omega) (by omega) (by omega) (by omega) (by omega) (by omega) (by omega) (by omega) (by omega) (by omega) (fun i z => by
              by_cases ei : i = (x12.toInt).toNat
              · rw [ei]; omega
              · have z2 := g11 i (by omega)
                rw [(W_n W356 (by omega) rfl)]; omega) j_369 (by omega) (by omega) (by omega) (by omega) (by omega) (by omega) (by omega) kn_372 z_373.1 (LSW_n g22 z_373.2) (by omega)
        · refine s_inc (pc := 252) rw_237_252 (ls2 := fun v => [.ref 77, u1, .int w, .int x3, .int x4, .int x5, .int x6, .int x7, u8, u9, u10, u11, .int v, u13]) rfl rfl (fun _ => rfl) (A := x12.toInt) (B := -1) rfl rfl (by omega) (fun v374 e375 => to_go (pc := 255) rw_237_255 ?_)
          exact ih.2.2.1 N (u1) x3 x4 x5 x6 x7 (u8) (u9) (u10) (u11) v374 (u13) hG F0 (by omega) (by omega) (by omega) (by omega) (by omega) (by omega) (by omega) (by omega) (by omega) (by omega) g11 g12 (by omega) (by omega) (by omega) (by omega) (by omega) (by omega) (by omega) g20 g21 g22 (HI_s (i := x12.toInt) g23 (by omega) (by omega) (by omega)) (by omega)
    · intro N u1 x3 x4 x5 x6 x7 u8 u9 u10 u11 u12 x13 hG F0 g1 g2 g3 g4 g5 g6 g7 g8 g9 g10 g11 g12 g13 g14 g15 g16 g17 g18 g19 g20 g21 g22 hm
      have b_376 := g_b hG (a := 77) (i := 28) (lo := 0) (hi := 30) rfl rfl
      have s_377 := PW_b hG (j := (x13.toInt).toNat) (k := (x4.toInt).toNat) (by omega) (by omega)
      have s_378 := g_b hG (a := 83) (i := (x3.toInt).toNat) (lo := 0) (hi := 63) rfl rfl
      have s_379 := g_b hG (a := 82) (i := (x3.toInt).toNat) (lo := 0) (hi := 59) rfl rfl
      have z_380 := g12.2.1
      have z_381 := g12.2.2.1
      have z_382 := g12.2.2.2.1
      have z_383 := g12.1
      have z_384 := z_383.1
      have z_385 := z_383.2.1
      have z_386 := z_383.2.2.1
      have z_387 := z_383.2.2.2.1
      have z_388 := z_383.2.2.2.2.1
      have z_389 := z_383.2.2.2.2.2.1
      have z_390 := g12.1.2.2.2.2.2.2.1 w.toInt (by omega) (by omega)
      have z_391 := g12.1.2.2.2.2.2.2.2 (x_row sg 7 w.toInt) (by omega) (by omega)
      have z_392 : x_fF sg w.toInt = x_row sg 3 (x_row sg 7 w.toInt) := rfl
      have z_393 : x_fW sg w.toInt = x_row sg 4 (x_row sg 7 w.toInt) - x_row sg 3 (x_row sg 7 w.toInt) + 1 := rfl
      have z_394 := x_fK_e (s := sg) (w := w.toInt) (by omega)
      have z_395 := PLk_r g12 3 82 rfl (by decide) (by decide) (k := x3.toInt) (by omega) (by omega) rfl
      have z_396 := x_row_v (s := sg) (r := 3) (x := x3.toInt) (y := (x_row sg 7 w.toInt)) (by omega)
      have z_397 := PLk_r g12 4 83 rfl (by decide) (by decide) (k := x3.toInt) (by omega) (by omega) rfl
      have z_398 := x_row_v (s := sg) (r := 4) (x := x3.toInt) (y := (x_row sg 7 w.toInt)) (by omega)
      refine to_i (pc := 283) rw_237_283 rfl (to_i (pc := 285) rw_237_285 rfl (b_cge (pc := 287) rw_237_287 (A := x13.toInt) (B := x4.toInt) rfl rfl (fun h399 => ?_) (fun h399 => ?_)))
      · refine to_go (pc := 314) rw_237_314 ?_
        have s_400 : PW N (x13.toInt).toNat (x4.toInt).toNat = PV N (x4.toInt).toNat := by rw [show (x13.toInt).toNat = (x4.toInt).toNat by omega]; exact PW_k
        exact ih.1 N (u1) x3 x4 x5 x6 x7 (u8) (u9) (u10) (u11) (u12) (.int x13) hG F0 (by omega) (by omega) (by omega) (by omega) (by omega) (by omega) (by omega) (fun i z => g11 i (by omega)) g12 (by omega) (by omega) (by omega) (by omega) (by omega) (by omega) (by omega) g20 (sbw_c (fun m z => (NX_x (k := x4.toInt) (by omega) (by omega) m z).symm) g21) (LSW_b (fun m z => NX_x (k := x4.toInt) (by omega) (by omega) m z) g22) (by omega)
      · refine to_an (pc := 290) rw_237_290 rfl (s_gR (pc := 291) rw_237_291 hG rfl (v := 118) rfl (to_i (pc := 294) rw_237_294 rfl (to_an (pc := 296) rw_237_296 rfl (s_gR (pc := 297) rw_237_297 hG rfl (v := 118) rfl (to_i (pc := 300) rw_237_300 rfl (to_c (pc := 302) rw_237_302 (x := (1 : Int32)) rfl rfl (s_sub (pc := 303) rw_237_303 (A := x13.toInt) (B := 1) rfl rfl (by omega) (fun v401 e402 => s_ial (pc := 304) rw_237_304 hG rfl (n := 4) rfl rfl (A := v401.toInt) rfl (by omega) (by omega) (lo := 0) (hi := 63) rfl rfl (fun v403 w_404 _ _ => ?_)))))))))
        have s_405 := g11 (v401.toInt).toNat (by omega)
        rw [w_404] at s_405
        have s_406 := congrArg Int32.toInt w_404
        have z_407 : v403.toInt = (N.2.1 118 (v401.toInt).toNat).toInt := (congrArg Int32.toInt w_404).symm
        refine to_c (pc := 305) rw_237_305 (x := (1 : Int32)) rfl rfl (s_add (pc := 306) rw_237_306 (A := v403.toInt) (B := 1) rfl rfl (by omega) (fun v408 e409 => s_ias (pc := 307) rw_237_307 hG rfl (n := 4) rfl (A := x13.toInt) rfl (by omega) (by omega) (fun M411 W410 => ?_)))
        have hG412 := g_w hG W410 (A := v408.toInt) rfl (lo := 0) (hi := 63) rfl rfl (by omega) (by decide)
        have F413 := FR.w F0 W410 (show 118 = 77 ∧ (x13.toInt).toNat = 2 ∨ 94 ≤ 118 ∧ 118 ≤ 98 ∨ 118 = 118 by omega)
        refine s_inc (pc := 308) rw_237_308 (ls2 := fun v => [.ref 77, u1, .int w, .int x3, .int x4, .int x5, .int x6, .int x7, u8, u9, u10, u11, u12, .int v]) rfl rfl (fun _ => rfl) (A := x13.toInt) (B := 1) rfl rfl (by omega) (fun v414 e415 => to_go (pc := 311) rw_237_311 ?_)
        have t_416 : (M411.2.1 83 (x3.toInt).toNat).toInt = (N.2.1 83 (x3.toInt).toNat).toInt := congrArg Int32.toInt (W_n W410 (by omega) rfl)
        have t_417 : (M411.2.1 82 (x3.toInt).toNat).toInt = (N.2.1 82 (x3.toInt).toNat).toInt := congrArg Int32.toInt (W_n W410 (by omega) rfl)
        have t_418 : (M411.2.1 82 (x3.toInt).toNat).toInt = (N.2.1 82 (x3.toInt).toNat).toInt := congrArg Int32.toInt (W_n W410 (by omega) rfl)
        have t_419 : (M411.2.1 83 (x3.toInt).toNat).toInt = (N.2.1 83 (x3.toInt).toNat).toInt := congrArg Int32.toInt (W_n W410 (by omega) rfl)
        have s_420 : (M411.2.1 118 (x13.toInt).toNat).toInt = v408.toInt := congrArg Int32.toInt (W_e W410)
        have s_421 : PW M411 (x13.toInt).toNat (x4.toInt).toNat = PW N (x13.toInt).toNat (x4.toInt).toNat := PW_f (fun i z => (W_n W410 (by omega) rfl))
        have s_422 := PW_le hG412 (j := (x13.toInt).toNat) (k := (x4.toInt).toNat) (by omega)
        have s_423 : PW M411 (v414.toInt).toNat (x4.toInt).toNat = PW M411 ((x13.toInt).toNat + 1) (x4.toInt).toNat := by rw [show (v414.toInt).toNat = (x13.toInt).toNat + 1 by omega]
        have j_424 := (PLk_f (fun a i z => W_n W410 (tg_149 a i _ z) rfl) g12)
        have c_425 : M411.2.1 77 28 = (N.2.1 77 28) := (W_n W410 (fun z => absurd z.1 (by decide)) rfl)
        have t_426 : (M411.2.1 77 28).toInt = (N.2.1 77 28).toInt := congrArg Int32.toInt c_425
        have kn_427 : KST M411 96 98 97 95 ca sg (x_kn sg NN (n.toInt).toNat) := KST_f (fun i => (W_j W410 rfl)) (fun i => (W_n W410 (by omega) rfl)) (fun i => (W_n W410 (by omega) rfl)) (fun i => (W_j W410 rfl)) g20
        have z_428 := NX_s (M := N) (M1 := M411) (j := x13.toInt) (j2 := v414.toInt) (by omega) (by omega) (fun i e => (W_n W410 (by omega) rfl)) (by rw [(W_e W410), show (x13.toInt - 1).toNat = (v401.toInt).toNat by omega]; omega)
        exact ih.2.2.2 M411 (u1) x3 x4 x5 x6 x7 (u8) (u9) (u10) (u11) (u12) v414 hG412 F413 (by omega) (by omega) (by omega) (by omega) (by omega) (by omega) (by omega) (by omega) (by omega) (by omega) (fun i z => by
            by_cases ei : i = (x13.toInt).toNat
            · rw [ei]; omega
            · have z2 := g11 i (by omega)
              rw [(W_n W410 (by omega) rfl)]; omega) j_424 (by omega) (by omega) (by omega) (by omega) (by omega) (by omega) (by omega) kn_427 (by rw [z_428]; exact g21) (by rw [z_428]; exact g22) (by omega)
set_option maxRecDepth 4000 in
set_option maxHeartbeats 0 in
theorem U_237_1 {X : mm_X} {d : Nat} {M : mm_M} {Q : Option Value → mm_M → Prop} {n : Int32} {w : Int32} {sg : x_S} {NN : x_N} {nz : Int} {ca : Int} (hX : g_X X) (hd : 20 ≤ d) (q1 : x_vn sg ca NN nz) (q2 : ca ≤ 30) (q3 : (M.2.1 77 29).toInt = nz) (q4 : (M.2.1 77 28).toInt = ca) (q5 : CWk M sg) (q6 : FA M) (q7 : PLk M sg) (q8 : W8 M) (q9 : NTr M NN nz) (q10 : NJ M) (q11 : WC M) (h : ∀ (r : Int32) (M1 : mm_M), g_G M1 → FR md_bs M M1 → (x_best sg NN nz ca n.toInt w.toInt r.toInt) → Q (some (.int r)) M1) : ∀ nn9 : Nat, (∀ (N : mm_M) (u1 : Value) (x3 : Int32) (x4 : Int32) (x5 : Int32) (x6 : Int32) (x7 : Int32) (x8 : Int32) (u9 : Value) (u10 : Value) (u11 : Value) (u12 : Value) (u13 : Value), g_G N → FR md_bs M N → (0 ≤ x8.toInt) → (x8.toInt ≤ 4) → (1 ≤ x4.toInt) → (x4.toInt ≤ 4) → (0 ≤ x3.toInt) → (x3.toInt ≤ 7) → (0 ≤ w.toInt) → (w.toInt ≤ 11) → (x4.toInt ≤ (N.2.1 83 (x3.toInt).toNat).toInt - (N.2.1 82 (x3.toInt).toNat).toInt + 1) → (∀ i : Nat, i < (x8.toInt).toNat → (N.2.1 118 i).toInt = i) → (PLk N sg) → ((N.2.1 77 28).toInt = ca) → (ca ≤ 30) → (0 ≤ n.toInt) → (n.toInt ≤ nz) → (w.toInt < sg.2.2.1) → (x3.toInt = x_row sg 7 w.toInt) → (x4.toInt = x_row sg 5 (x_row sg 7 w.toInt)) → (KST N 96 98 97 95 ca sg (x_kn sg NN (n.toInt).toNat)) → (x5.toInt = -1) → 4 - x8.toInt < (nn9 : Int) → mm_T X d 236 55 [.ref 77, u1, .int w, .int x3, .int x4, .int x5, .int x6, .int x7, .int x8, u9, u10, u11, u12, u13] [] N Q) := by
  intro nn9
  induction nn9 with
  | zero =>
    intro N u1 x3 x4 x5 x6 x7 x8 u9 u10 u11 u12 u13 hG F0 g1 g2 g3 g4 g5 g6 g7 g8 g9 g10 g11 g12 g13 g14 g15 g16 g17 g18 g19 g20 hm
    have b_429 := g_b hG (a := 77) (i := 28) (lo := 0) (hi := 30) rfl rfl
    exfalso; omega
  | succ nn9 ih =>
    intro N u1 x3 x4 x5 x6 x7 x8 u9 u10 u11 u12 u13 hG F0 g1 g2 g3 g4 g5 g6 g7 g8 g9 g10 g11 g12 g13 g14 g15 g16 g17 g18 g19 g20 hm
    have b_430 := g_b hG (a := 77) (i := 28) (lo := 0) (hi := 30) rfl rfl
    have s_431 := g_b hG (a := 83) (i := (x3.toInt).toNat) (lo := 0) (hi := 63) rfl rfl
    have s_432 := g_b hG (a := 82) (i := (x3.toInt).toNat) (lo := 0) (hi := 59) rfl rfl
    have z_433 := g11.2.1
    have z_434 := g11.2.2.1
    have z_435 := g11.2.2.2.1
    have z_436 := g11.1
    have z_437 := z_436.1
    have z_438 := z_436.2.1
    have z_439 := z_436.2.2.1
    have z_440 := z_436.2.2.2.1
    have z_441 := z_436.2.2.2.2.1
    have z_442 := z_436.2.2.2.2.2.1
    have z_443 := g11.1.2.2.2.2.2.2.1 w.toInt (by omega) (by omega)
    have z_444 := g11.1.2.2.2.2.2.2.2 (x_row sg 7 w.toInt) (by omega) (by omega)
    have z_445 : x_fF sg w.toInt = x_row sg 3 (x_row sg 7 w.toInt) := rfl
    have z_446 : x_fW sg w.toInt = x_row sg 4 (x_row sg 7 w.toInt) - x_row sg 3 (x_row sg 7 w.toInt) + 1 := rfl
    have z_447 := x_fK_e (s := sg) (w := w.toInt) (by omega)
    have z_448 := PLk_r g11 3 82 rfl (by decide) (by decide) (k := x3.toInt) (by omega) (by omega) rfl
    have z_449 := x_row_v (s := sg) (r := 3) (x := x3.toInt) (y := (x_row sg 7 w.toInt)) (by omega)
    have z_450 := PLk_r g11 4 83 rfl (by decide) (by decide) (k := x3.toInt) (by omega) (by omega) rfl
    have z_451 := x_row_v (s := sg) (r := 4) (x := x3.toInt) (y := (x_row sg 7 w.toInt)) (by omega)
    refine to_i (pc := 55) rw_237_55 rfl (to_i (pc := 57) rw_237_57 rfl (b_cge (pc := 59) rw_237_59 (A := x8.toInt) (B := x4.toInt) rfl rfl (fun h452 => ?_) (fun h452 => ?_)))
    · exact (U_237_0 (n := n) (w := w) (sg := sg) (NN := NN) (nz := nz) (ca := ca) hX hd q1 q2 q3 q4 q5 q6 q7 q8 q9 q10 q11 h (((16777216 - PV N (x4.toInt).toNat) * 1000 + 500).toNat + 1)).1 N (u1) x3 x4 x5 x6 x7 (.int x8) (u9) (u10) (u11) (u12) (u13) hG F0 (by omega) (by omega) (by omega) (by omega) (by omega) (by omega) (by omega) (fun i z => by have z2 := g10 i (by omega); omega) g11 (by omega) (by omega) (by omega) (by omega) (by omega) (by omega) (by omega) g19 (RB_0 (k := x4.toInt) (by omega) (by omega) (fun i z => g10 i (by omega))) (RL_0 (k := x4.toInt) (by omega) (fun i z => g10 i (by omega)) (by omega)) (by omega)
    · refine to_an (pc := 62) rw_237_62 rfl (s_gR (pc := 63) rw_237_63 hG rfl (v := 118) rfl (to_i (pc := 66) rw_237_66 rfl (to_i (pc := 68) rw_237_68 rfl (s_ias (pc := 70) rw_237_70 hG rfl (n := 4) rfl (A := x8.toInt) rfl (by omega) (by omega) (fun M454 W453 => ?_)))))
      have hG455 := g_w hG W453 (A := x8.toInt) rfl (lo := 0) (hi := 63) rfl rfl (by omega) (by decide)
      have F456 := FR.w F0 W453 (show 118 = 77 ∧ (x8.toInt).toNat = 2 ∨ 94 ≤ 118 ∧ 118 ≤ 98 ∨ 118 = 118 by omega)
      refine s_inc (pc := 71) rw_237_71 (ls2 := fun v => [.ref 77, u1, .int w, .int x3, .int x4, .int x5, .int x6, .int x7, .int v, u9, u10, u11, u12, u13]) rfl rfl (fun _ => rfl) (A := x8.toInt) (B := 1) rfl rfl (by omega) (fun v457 e458 => to_go (pc := 74) rw_237_74 ?_)
      have t_459 : (M454.2.1 83 (x3.toInt).toNat).toInt = (N.2.1 83 (x3.toInt).toNat).toInt := congrArg Int32.toInt (W_n W453 (by omega) rfl)
      have t_460 : (M454.2.1 82 (x3.toInt).toNat).toInt = (N.2.1 82 (x3.toInt).toNat).toInt := congrArg Int32.toInt (W_n W453 (by omega) rfl)
      have j_461 := (PLk_f (fun a i z => W_n W453 (tg_149 a i _ z) rfl) g11)
      have c_462 : M454.2.1 77 28 = (N.2.1 77 28) := (W_n W453 (fun z => absurd z.1 (by decide)) rfl)
      have t_463 : (M454.2.1 77 28).toInt = (N.2.1 77 28).toInt := congrArg Int32.toInt c_462
      have kn_464 : KST M454 96 98 97 95 ca sg (x_kn sg NN (n.toInt).toNat) := KST_f (fun i => (W_j W453 rfl)) (fun i => (W_n W453 (by omega) rfl)) (fun i => (W_n W453 (by omega) rfl)) (fun i => (W_j W453 rfl)) g19
      exact ih M454 (u1) x3 x4 x5 x6 x7 v457 (u9) (u10) (u11) (u12) (u13) hG455 F456 (by omega) (by omega) (by omega) (by omega) (by omega) (by omega) (by omega) (by omega) (by omega) (fun i z => by
          by_cases e : i = (x8.toInt).toNat
          · rw [e, (W_e W453)]; omega
          · rw [(W_n W453 (by omega) rfl)]; exact g10 i (by omega)) j_461 (by omega) (by omega) (by omega) (by omega) (by omega) (by omega) (by omega) kn_464 (by omega) (by omega)
set_option maxRecDepth 4000 in
set_option maxHeartbeats 0 in
theorem E_237 {X : mm_X} {d : Nat} {M : mm_M} {Q : Option Value → mm_M → Prop} {n : Int32} {w : Int32} {sg : x_S} {NN : x_N} {nz : Int} {ca : Int} (hX : g_X X) (hd : 20 ≤ d) (hG : g_G M) (q1 : x_vn sg ca NN nz) (q2 : ca ≤ 30) (q3 : (M.2.1 77 29).toInt = nz) (q4 : (M.2.1 77 28).toInt = ca) (q5 : CWk M sg) (q6 : FA M) (q7 : PLk M sg) (q8 : W8 M) (q9 : NTr M NN nz) (q10 : NJ M) (q11 : WC M) (h : ∀ (r : Int32) (M1 : mm_M), g_G M1 → FR md_bs M M1 → (x_best sg NN nz ca n.toInt w.toInt r.toInt) → Q (some (.int r)) M1) : mm_T X d 236 0 [.ref 77, .int n, .int w, .null, .null, .null, .null, .null, .null, .null, .null, .null, .null, .null] [] M Q := by
  have F0 : FR md_bs M M := FR.rf
  have b_465 := g_b hG (a := 77) (i := 29) (lo := 0) (hi := 150) rfl rfl
  have b_466 := g_b hG (a := 77) (i := 28) (lo := 0) (hi := 30) rfl rfl
  have z_467 := q7.2.1
  have z_468 := q7.2.2.1
  have z_469 := q7.2.2.2.1
  have z_470 := q7.1
  have z_471 := z_470.1
  have z_472 := z_470.2.1
  have z_473 := z_470.2.2.1
  have z_474 := z_470.2.2.2.1
  have z_475 := z_470.2.2.2.2.1
  have z_476 := z_470.2.2.2.2.2.1
  have b_477 := g_b hG (a := 77) (i := 11) (lo := 10) (hi := 60) rfl rfl
  have b_478 := g_b hG (a := 77) (i := 12) (lo := 0) (hi := 8) rfl rfl
  have b_479 := g_b hG (a := 77) (i := 13) (lo := 0) (hi := 12) rfl rfl
  refine to_an (pc := 0) rw_237_0 rfl (to_c (pc := 1) rw_237_1 (x := (0 : Int32)) rfl rfl (s_pI (pc := 2) rw_237_2 hG rfl (fun M481 W480 => ?_)))
  have hG482 := g_wf hG W480 rfl rfl (by decide)
  have F483 := FR.w F0 W480 (show 77 = 77 ∧ 2 = 2 ∨ 94 ≤ 77 ∧ 77 ≤ 98 ∨ 77 = 118 by decide)
  refine to_an (pc := 5) rw_237_5 rfl (to_in (pc := 6) rw_237_6 rfl (s_v (pc := 7) rw_237_7 (dp0 hd (by decide)) (ls0 := [.ref 77, .int n]) rfl (Nat.le_of_ble_eq_true rfl) (Nat.le_of_ble_eq_true rfl) rfl (to_rc rfl rfl rfl (g_o hG482 rfl)) rfl (to_in (pc := 0) rw_186_0 rfl (b_ilt (pc := 1) rw_186_1 (A := n.toInt) rfl (fun h484 => ?_) (fun h484 => ?_)))))
  · refine to_c (pc := 16) rw_186_16 (x := (0 : Int32)) rfl rfl (s_r1 (pc := 17) rw_186_17 (A := 0) rfl (by decide) (b_ieq_t (pc := 10) rw_237_10 (A := 0) rfl (by decide) (to_c (pc := 21) rw_237_21 (x := (-1 : Int32)) rfl rfl (to_r0 (pc := 22) rw_237_22 ?_))))
    have k_485 : (-1 : Int32).toInt = -1 := rfl
    exact h (-1 : Int32) M481 hG482 F483 (x_best_n (by omega) (by first | rfl | omega))
  · refine to_in (pc := 4) rw_186_4 rfl (to_an (pc := 5) rw_186_5 rfl ?_)
    have c_486 : M481.2.1 77 29 = (M.2.1 77 29) := (W_n W480 (by decide) rfl)
    refine tt_gI (pc := 6) rw_186_6 (g_o hG482 rfl) (v := (M.2.1 77 29)) c_486 (b_cgt (pc := 9) rw_186_9 (A := n.toInt) (B := (M.2.1 77 29).toInt) rfl rfl (fun h487 => ?_) (fun h487 => ?_))
    · refine to_c (pc := 16) rw_186_16 (x := (0 : Int32)) rfl rfl (s_r1 (pc := 17) rw_186_17 (A := 0) rfl (by decide) (b_ieq_t (pc := 10) rw_237_10 (A := 0) rfl (by decide) (to_c (pc := 21) rw_237_21 (x := (-1 : Int32)) rfl rfl (to_r0 (pc := 22) rw_237_22 ?_))))
      have k_488 : (-1 : Int32).toInt = -1 := rfl
      exact h (-1 : Int32) M481 hG482 F483 (x_best_n (by omega) (by first | rfl | omega))
    · refine to_c (pc := 12) rw_186_12 (x := (1 : Int32)) rfl rfl (to_go (pc := 13) rw_186_13 (s_r1 (pc := 17) rw_186_17 (A := 1) rfl (by decide) (b_ieq_f (pc := 10) rw_237_10 (A := 1) rfl (by decide) (to_an (pc := 13) rw_237_13 rfl (to_in (pc := 14) rw_237_14 rfl (s_v (pc := 15) rw_237_15 (dp0 hd (by decide)) (ls0 := [.ref 77, .int w]) rfl (Nat.le_of_ble_eq_true rfl) (Nat.le_of_ble_eq_true rfl) rfl (to_rc rfl rfl rfl (g_o hG482 rfl)) rfl (to_in (pc := 0) rw_180_0 rfl (b_ilt (pc := 1) rw_180_1 (A := w.toInt) rfl (fun h489 => ?_) (fun h489 => ?_)))))))))
      · refine to_c (pc := 16) rw_180_16 (x := (0 : Int32)) rfl rfl (s_r1 (pc := 17) rw_180_17 (A := 0) rfl (by decide) (b_ine_f (pc := 18) rw_237_18 (A := 0) rfl (by decide) (to_c (pc := 21) rw_237_21 (x := (-1 : Int32)) rfl rfl (to_r0 (pc := 22) rw_237_22 ?_))))
        have k_490 : (-1 : Int32).toInt = -1 := rfl
        exact h (-1 : Int32) M481 hG482 F483 (x_best_n (by omega) (by first | rfl | omega))
      · refine to_in (pc := 4) rw_180_4 rfl (to_an (pc := 5) rw_180_5 rfl ?_)
        have c_491 : M481.2.1 77 13 = (M.2.1 77 13) := (W_n W480 (by decide) rfl)
        refine tt_gI (pc := 6) rw_180_6 (g_o hG482 rfl) (v := (M.2.1 77 13)) c_491 (b_cge (pc := 9) rw_180_9 (A := w.toInt) (B := (M.2.1 77 13).toInt) rfl rfl (fun h492 => ?_) (fun h492 => ?_))
        · refine to_c (pc := 16) rw_180_16 (x := (0 : Int32)) rfl rfl (s_r1 (pc := 17) rw_180_17 (A := 0) rfl (by decide) (b_ine_f (pc := 18) rw_237_18 (A := 0) rfl (by decide) (to_c (pc := 21) rw_237_21 (x := (-1 : Int32)) rfl rfl (to_r0 (pc := 22) rw_237_22 ?_))))
          have k_493 : (-1 : Int32).toInt = -1 := rfl
          exact h (-1 : Int32) M481 hG482 F483 (x_best_n (by omega) (by first | rfl | omega))
        · refine to_c (pc := 12) rw_180_12 (x := (1 : Int32)) rfl rfl (to_go (pc := 13) rw_180_13 (s_r1 (pc := 17) rw_180_17 (A := 1) rfl (by decide) (b_ine_t (pc := 18) rw_237_18 (A := 1) rfl (by decide) (to_an (pc := 23) rw_237_23 rfl (to_in (pc := 24) rw_237_24 rfl (s_v (pc := 25) rw_237_25 (dp0 hd (by decide)) (ls0 := [.ref 77, .int n, .null, .null]) rfl (Nat.le_of_ble_eq_true rfl) (Nat.le_of_ble_eq_true rfl) rfl (to_rc rfl rfl rfl (g_o hG482 rfl)) rfl ?_))))))
          have c_494 : M481.2.1 77 28 = (M.2.1 77 28) := (W_n W480 (by decide) rfl)
          have t_495 : (M481.2.1 77 28).toInt = (M.2.1 77 28).toInt := congrArg Int32.toInt c_494
          have j_496 := (CWk_f (fun k hk9 => W_j W480 rfl) q5)
          have j_497 := (FA_f (fun a i z => W_n W480 (tg_94 a i z) rfl) q6)
          have j_498 := (PLk_f (fun a i z => W_n W480 (tg_91 a i z) rfl) q7)
          have j_499 := (W8_f (fun a i z => W_n W480 (tg_95 a i z) rfl) q8)
          have j_500 := (NTr_f (fun a i z => W_n W480 (tg_135 a i z) rfl) q9)
          refine E_189 hX (dp1 hd (by decide)) hG482 (by omega) (by omega) (by omega) q1 (by omega) (by omega) j_496 j_497 j_498 j_499 j_500 (n := n) (sg := sg) (NN := NN) (nz := nz) (ca := ca) (fun M504 hG502 F501 p_503 => ?_)
          have F505 := FR.c F483 F501 tg_148
          refine to_an (pc := 28) rw_237_28 rfl (s_gR (pc := 29) rw_237_29 hG502 rfl (v := 86) rfl (to_in (pc := 32) rw_237_32 rfl (s_ial (pc := 33) rw_237_33 hG502 rfl (n := 24) rfl rfl (A := w.toInt) rfl (by omega) (by omega) (lo := 0) (hi := 7) rfl rfl (fun v506 w_507 _ _ => ?_))))
          have c_508 : M504.2.1 77 13 = (M.2.1 77 13) := (F_n F501 (show ¬ (94 ≤ 77 ∧ 77 ≤ 98) by decide) c_491)
          have t_509 : (M504.2.1 77 13).toInt = (M.2.1 77 13).toInt := congrArg Int32.toInt c_508
          have j_511 := (WC_f (tg_145 F501) (WC_f (fun a i z => W_n W480 (by /-r77,2-/ omega) rfl) q11))
          have s_510 := WC_u (A := w.toInt) j_511 (by omega) (by omega) (by omega) w_507
          have j_512 := (PLk_f (tg_136 F501) j_498)
          have z_513 := PLk_w j_512 7 86 rfl (by decide) (by decide) (k := w.toInt) (by omega) (by omega) w_507
          have z_514 := j_512.1.2.2.2.2.2.2.1 w.toInt (by omega) (by omega)
          have z_515 := j_512.1.2.2.2.2.2.2.2 (x_row sg 7 w.toInt) (by omega) (by omega)
          refine to_isn (pc := 34) rw_237_34 (ls2 := [.ref 77, .int n, .int w, .int v506, .null, .null, .null, .null, .null, .null, .null, .null, .null, .null]) rfl rfl (to_an (pc := 35) rw_237_35 rfl (s_gR (pc := 36) rw_237_36 hG502 rfl (v := 84) rfl (to_in (pc := 39) rw_237_39 rfl (s_ial (pc := 40) rw_237_40 hG502 rfl (n := 16) rfl rfl (A := v506.toInt) rfl (by omega) (by omega) (lo := 0) (hi := 24) rfl rfl (fun v516 w_517 _ _ => ?_)))))
          have t_518 := congrArg Int32.toInt w_517
          have j_520 := (FA_f (tg_146 F501) j_497)
          have j_519 := FA_u j_520 (v506.toInt).toNat
          have z_521 := PLk_r j_512 5 84 rfl (by decide) (by decide) (k := v506.toInt) (by omega) (by omega) w_517
          have z_522 := x_row_v (s := sg) (r := 5) (x := v506.toInt) (y := (x_row sg 7 w.toInt)) (by omega)
          refine to_is (pc := 41) rw_237_41 (ls2 := [.ref 77, .int n, .int w, .int v506, .int v516, .null, .null, .null, .null, .null, .null, .null, .null, .null]) rfl rfl (to_c (pc := 43) rw_237_43 (x := (-1 : Int32)) rfl rfl (to_is (pc := 44) rw_237_44 (ls2 := [.ref 77, .int n, .int w, .int v506, .int v516, .int (-1 : Int32), .null, .null, .null, .null, .null, .null, .null, .null]) rfl rfl (to_c (pc := 46) rw_237_46 (x := (0 : Int32)) rfl rfl (to_is (pc := 47) rw_237_47 (ls2 := [.ref 77, .int n, .int w, .int v506, .int v516, .int (-1 : Int32), .int (0 : Int32), .null, .null, .null, .null, .null, .null, .null]) rfl rfl (to_c (pc := 49) rw_237_49 (x := (0 : Int32)) rfl rfl (to_is (pc := 50) rw_237_50 (ls2 := [.ref 77, .int n, .int w, .int v506, .int v516, .int (-1 : Int32), .int (0 : Int32), .int (0 : Int32), .null, .null, .null, .null, .null, .null]) rfl rfl (to_c (pc := 52) rw_237_52 (x := (0 : Int32)) rfl rfl (to_is (pc := 53) rw_237_53 (ls2 := [.ref 77, .int n, .int w, .int v506, .int v516, .int (-1 : Int32), .int (0 : Int32), .int (0 : Int32), .int (0 : Int32), .null, .null, .null, .null, .null]) rfl rfl ?_))))))))
          have k_523 : (-1 : Int32).toInt = -1 := rfl
          have k_524 : (0 : Int32).toInt = 0 := rfl
          have t_525 : (M504.2.1 83 (v506.toInt).toNat).toInt = (M.2.1 83 (v506.toInt).toNat).toInt := congrArg Int32.toInt (F_n F501 (show ¬ (94 ≤ 83 ∧ 83 ≤ 98) by decide) (W_n W480 (by omega) rfl))
          have t_526 : (M504.2.1 82 (v506.toInt).toNat).toInt = (M.2.1 82 (v506.toInt).toNat).toInt := congrArg Int32.toInt (F_n F501 (show ¬ (94 ≤ 82 ∧ 82 ≤ 98) by decide) (W_n W480 (by omega) rfl))
          have c_527 : M504.2.1 77 28 = (M.2.1 77 28) := (F_n F501 (show ¬ (94 ≤ 77 ∧ 77 ≤ 98) by decide) c_494)
          have t_528 : (M504.2.1 77 28).toInt = (M.2.1 77 28).toInt := congrArg Int32.toInt c_527
          exact (U_237_1 (n := n) (w := w) (sg := sg) (NN := NN) (nz := nz) (ca := ca) hX hd q1 q2 q3 q4 q5 q6 q7 q8 q9 q10 q11 h ((4 - (0 : Int32).toInt).toNat + 1)) M504 (.int n) v506 v516 (-1 : Int32) (0 : Int32) (0 : Int32) (0 : Int32) (.null) (.null) (.null) (.null) (.null) hG502 F505 (by omega) (by omega) (by omega) (by omega) (by omega) (by omega) (by omega) (by omega) (by omega) (fun i z => absurd z (by omega)) j_512 (by omega) (by omega) (by omega) (by omega) (by omega) (by omega) (by omega) p_503 (by omega) (by omega)
