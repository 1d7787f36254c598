set_option maxRecDepth 4000 in
set_option maxHeartbeats 0 in
theorem U_60_0 {X : mm_X} {d : Nat} {M : mm_M} {Q : Option Value → mm_M → Prop} {q : Nat} {p : Nat} {o : Int32} {t : Nat → Int} {nn : Int} {a : Int} {sg : x_S} {b : Int} {W9 : List Int} {P9 : x_GP} (hX : g_X X) (hd : 3 + 4 * (8 - o.toInt) ≤ (d : Int)) (hq : q = 67 ∨ q = 72) (hp : p = 49 ∨ p = 58) (q1 : 0 ≤ o.toInt) (q2 : o.toInt ≤ 8) (q3 : o.toInt = b) (q4 : CS M t nn) (q5 : (M.2.1 1 9).toInt = a) (q6 : PLs M p sg) (q7 : LQc M q P9) (q8 : (M.2.1 q 4).toInt = P9.2 + x_wc W9) (hr : RE_58 (8 - o.toInt)) (h : ∀ (r : Int32) (M1 : mm_M), g_G M1 → FR (md_qq q) M M1 → (0 ≤ r.toInt) → (r.toInt ≤ 1) → CS M1 t nn → (r.toInt = 1 → (M.2.1 q 4).toInt < (M1.2.1 q 4).toInt) → ((r.toInt = 1 → ∃ P2 : x_GP, LQc M1 q P2 ∧ (M1.2.1 q 4).toInt = P2.2 + x_wc W9 ∧ x_gg t nn sg 0 b (M.2.1 q 4).toInt W9 P9 a = x_gg t nn sg 1 b (M1.2.1 q 4).toInt W9 P2 (M1.2.1 1 9).toInt)) → ((r.toInt = 0 → x_gg t nn sg 0 b (M.2.1 q 4).toInt W9 P9 a = Sum.inl ((M1.2.1 1 10).toInt, (M1.2.1 1 11).toInt))) → Q (some (.int r)) M1) : ∀ nn9 : Nat, (∀ (N : mm_M) (u1 : Value) (u2 : Value) (u3 : Value) (x4 : Int32) (x5 : Int32) (x6 : Int32), g_G N → FR (md_qq q) M N → (0 ≤ x6.toInt) → (x6.toInt ≤ 41) → (0 ≤ x4.toInt) → (x4.toInt ≤ 41) → (0 ≤ x5.toInt) → (x5.toInt ≤ 1) → (CS N t nn) → (PLs N p sg) → (x5.toInt = 1 → (M.2.1 q 4).toInt < (N.2.1 q 4).toInt) → ((x5.toInt = 1 → ∃ P2 : x_GP, LQc N q P2 ∧ (N.2.1 q 4).toInt = P2.2 + (x4.toInt - x6.toInt) + x_wc W9 ∧ x6.toInt ≤ x4.toInt ∧ x_gg t nn sg 0 b (M.2.1 q 4).toInt W9 P9 a = x_gg t nn sg 1 b (N.2.1 q 4).toInt (x_2s (x4.toInt - x6.toInt).toNat W9) P2 (N.2.1 1 9).toInt)) → ((x5.toInt = 0 → x_gg t nn sg 0 b (M.2.1 q 4).toInt W9 P9 a = Sum.inl ((N.2.1 1 10).toInt, (N.2.1 1 11).toInt))) → 41 - x6.toInt < (nn9 : Int) → mm_T X d 60 65 [.ref q, u1, u2, u3, .int x4, .int x5, .int x6] [] N Q) := by
  intro nn9
  induction nn9 with
  | zero =>
    intro N u1 u2 u3 x4 x5 x6 hG F0 g1 g2 g3 g4 g5 g6 g7 g8 g9 g10 g11 hm
    have b_1 := g_b hG (a := q) (i := 4) (lo := 0) (hi := 40) (by rcases hq with rfl | rfl <;> rfl) (by rcases hq with rfl | rfl <;> rfl)
    exfalso; omega
  | succ nn9 ih =>
    intro N u1 u2 u3 x4 x5 x6 hG F0 g1 g2 g3 g4 g5 g6 g7 g8 g9 g10 g11 hm
    have b_2 := g_b hG (a := q) (i := 4) (lo := 0) (hi := 40) (by rcases hq with rfl | rfl <;> rfl) (by rcases hq with rfl | rfl <;> rfl)
    have z_3 := x_wc_b W9
    have c_4 := CS_u g7 (a := (N.2.1 1 9).toInt) (by (first | (clear g9 g10 g11; omega) | omega))
    unfold x_C at c_4
    have z_5 := x_kx_q (x_val t nn (N.2.1 1 9).toInt)
    refine to_i (pc := 65) rw_60_65 rfl (to_i (pc := 67) rw_60_67 rfl (b_cge (pc := 69) rw_60_69 (A := x6.toInt) (B := x4.toInt) rfl rfl (fun h6 => ?_) (fun h6 => ?_)))
    · refine to_i (pc := 90) rw_60_90 rfl (s_r1 (pc := 92) rw_60_92 (A := x5.toInt) rfl (by (first | (clear g9 g10 g11; omega) | omega)) ?_)
      exact h x5 N hG F0 (by (first | (clear g9 g10 g11; omega) | omega)) (by (first | (clear g9 g10 g11; omega) | omega)) g7 (by (first | (clear g9 g10 g11; omega) | omega)) (fun z => by obtain ⟨P2, a1, a2, a3, a4⟩ := g10 (by (first | (clear g9 g10 g11; omega) | omega)); exact ⟨P2, a1, by (first | (clear g9 g10 g11; omega) | omega), a4.trans (g_v rfl rfl (by (first | (clear g9 g10 g11; omega) | omega)) (x_2s_0 (by (first | (clear g9 g10 g11; omega) | omega))) (by (first | (clear g9 g10 g11; omega) | omega)))⟩) (fun z => ginl (by (first | (clear g9 g10 g11; omega) | omega)) (by (first | (clear g9 g10 g11; omega) | omega)) (g11 (by (first | (clear g9 g10 g11; omega) | omega))))
    · refine to_i (pc := 72) rw_60_72 rfl (b_ieq (pc := 74) rw_60_74 (A := x5.toInt) rfl (fun h7 => ?_) (fun h7 => ?_))
      · refine to_i (pc := 90) rw_60_90 rfl (s_r1 (pc := 92) rw_60_92 (A := x5.toInt) rfl (by (first | (clear g9 g10 g11; omega) | omega)) ?_)
        exact h x5 N hG F0 (by (first | (clear g9 g10 g11; omega) | omega)) (by (first | (clear g9 g10 g11; omega) | omega)) g7 (by (first | (clear g9 g10 g11; omega) | omega)) (fun z => by obtain ⟨P2, a1, a2, a3, a4⟩ := g10 (by (first | (clear g9 g10 g11; omega) | omega)); exact ⟨P2, a1, by (first | (clear g9 g10 g11; omega) | omega), a4.trans (g_v rfl rfl (by (first | (clear g9 g10 g11; omega) | omega)) (x_2s_0 (by (first | (clear g9 g10 g11; omega) | omega))) (by (first | (clear g9 g10 g11; omega) | omega)))⟩) (fun z => ginl (by (first | (clear g9 g10 g11; omega) | omega)) (by (first | (clear g9 g10 g11; omega) | omega)) (g11 (by (first | (clear g9 g10 g11; omega) | omega))))
      · refine to_an (pc := 77) rw_60_77 rfl (to_c (pc := 78) rw_60_78 (x := (2 : Int32)) rfl rfl (to_c (pc := 79) rw_60_79 (x := (0 : Int32)) rfl rfl (to_c (pc := 80) rw_60_80 (x := (0 : Int32)) rfl rfl (s_v (pc := 81) rw_60_81 (by (first | (clear g9 g10 g11 h7; omega) | (clear g9 g10 g11; omega) | omega)) (ls0 := [.ref q, .int (2 : Int32), .int (0 : Int32), .int (0 : Int32)]) rfl (Nat.le_of_ble_eq_true rfl) (Nat.le_of_ble_eq_true rfl) rfl (to_rc rfl rfl rfl (g_o hG (by rcases hq with rfl | rfl <;> rfl))) rfl ?_))))
        have k_8 : (2 : Int32).toInt = 2 := rfl
        have k_9 : (0 : Int32).toInt = 0 := rfl
        obtain ⟨Pm, m1, m2, m3, m4⟩ := g10 (by (first | (clear g9 g10 g11 h7; omega) | (clear g9 g10 g11; omega) | omega))
        have z_10 := m1.1
        refine E_64 hX (by (first | (clear g9 g10 g11 h7; omega) | (clear g9 g10 g11; omega) | omega)) hG hq (by (first | (clear g9 g10 g11 h7; omega) | (clear g9 g10 g11; omega) | omega)) (by (first | (clear g9 g10 g11 h7; omega) | (clear g9 g10 g11; omega) | omega)) (by (first | (clear g9 g10 g11 h7; omega) | (clear g9 g10 g11; omega) | omega)) (by (first | (clear g9 g10 g11 h7; omega) | (clear g9 g10 g11; omega) | omega)) m1 (by (first | (clear g9 g10 g11 h7; omega) | (clear g9 g10 g11; omega) | omega)) (q := q) (k := (2 : Int32)) (f := (0 : Int32)) (s := (0 : Int32)) (P9 := P9) (fun M14 hG12 F11 p_13 => ?_)
        have F15 := FR.c F0 F11 (fun a i z => show a = 1 ∧ 5 ≤ i ∨ 3 ≤ a ∧ a ≤ 5 ∨ q ≤ a ∧ a ≤ q + 4 by have z : a = q ∧ i = 5 ∨ q + 1 ≤ a ∧ a ≤ q + 3 := z; omega)
        have z_16 := LQc_v (k2 := 2) (f2 := 0) (s2 := 0) rfl rfl rfl p_13
        have z_17 := x_kn1_2 (P := Pm) (k := 2) (a := 0) (b := 0)
        refine s_inc (pc := 84) rw_60_84 (ls2 := fun v => [.ref q, u1, u2, u3, .int x4, .int x5, .int v]) rfl rfl (fun _ => rfl) (A := x6.toInt) (B := 1) rfl rfl (by (first | (clear g9 g10 g11 h7; omega) | (clear g9 g10 g11; omega) | omega)) (fun v18 e19 => to_go (pc := 87) rw_60_87 ?_)
        have j_20 := (CS_f (fun a i z => F_n F11 (show ¬ (a = q ∧ i = 5 ∨ q + 1 ≤ a ∧ a ≤ q + 3) by (first | (clear g9 g10 g11 h7; omega) | (clear g9 g10 g11; omega) | omega)) rfl) g7)
        have j_21 := (PLs_f (fun a i z => F_n F11 (show ¬ (a = q ∧ i = 5 ∨ q + 1 ≤ a ∧ a ≤ q + 3) by (first | (clear g9 g10 g11 h7; omega) | (clear g9 g10 g11; omega) | omega)) rfl) g8)
        have c_22 : M14.2.1 q 4 = (N.2.1 q 4) := (F_n F11 (show ¬ (q = q ∧ 4 = 5 ∨ q + 1 ≤ q ∧ q ≤ q + 3) by (first | (clear g9 g10 g11 h7; omega) | (clear g9 g10 g11; omega) | omega)) rfl)
        have t_23 : (M14.2.1 q 4).toInt = (N.2.1 q 4).toInt := congrArg Int32.toInt c_22
        have c_24 : M14.2.1 1 9 = (N.2.1 1 9) := (F_n F11 (show ¬ (1 = q ∧ 9 = 5 ∨ q + 1 ≤ 1 ∧ 1 ≤ q + 3) by (first | (clear g9 g10 g11 h7; omega) | (clear g9 g10 g11; omega) | omega)) rfl)
        have t_25 : (M14.2.1 1 9).toInt = (N.2.1 1 9).toInt := congrArg Int32.toInt c_24
        have c_26 : M14.2.1 1 10 = (N.2.1 1 10) := (F_n F11 (show ¬ (1 = q ∧ 10 = 5 ∨ q + 1 ≤ 1 ∧ 1 ≤ q + 3) by (first | (clear g9 g10 g11 h7; omega) | (clear g9 g10 g11; omega) | omega)) rfl)
        have t_27 : (M14.2.1 1 10).toInt = (N.2.1 1 10).toInt := congrArg Int32.toInt c_26
        have c_28 : M14.2.1 1 11 = (N.2.1 1 11) := (F_n F11 (show ¬ (1 = q ∧ 11 = 5 ∨ q + 1 ≤ 1 ∧ 1 ≤ q + 3) by (first | (clear g9 g10 g11 h7; omega) | (clear g9 g10 g11; omega) | omega)) rfl)
        have t_29 : (M14.2.1 1 11).toInt = (N.2.1 1 11).toInt := congrArg Int32.toInt c_28
        exact ih M14 (u1) (u2) (u3) x4 x5 v18 hG12 F15 (by (first | (clear g9 g10 g11 h7; omega) | (clear g9 g10 g11; omega) | omega)) (by (first | (clear g9 g10 g11 h7; omega) | (clear g9 g10 g11; omega) | omega)) (by (first | (clear g9 g10 g11 h7; omega) | (clear g9 g10 g11; omega) | omega)) (by (first | (clear g9 g10 g11 h7; omega) | (clear g9 g10 g11; omega) | omega)) (by (first | (clear g9 g10 g11 h7; omega) | (clear g9 g10 g11; omega) | omega)) (by (first | (clear g9 g10 g11 h7; omega) | (clear g9 g10 g11; omega) | omega)) j_20 j_21 (by (first | (clear g9 g10 g11 h7; omega) | (clear g9 g10 g11; omega) | omega)) (fun z => ⟨x_kn1 Pm 2 0 0, z_16, (by (first | (clear g9 g10 g11 h7; omega) | (clear g9 g10 g11; omega) | omega)), (by (first | (clear g9 g10 g11 h7; omega) | (clear g9 g10 g11; omega) | omega)), m4.trans ((g_v rfl rfl rfl (x_2s_s (n := x4.toInt - v18.toInt) (by (first | (clear g9 g10 g11 h7; omega) | (clear g9 g10 g11; omega) | omega)) (by (first | (clear g9 g10 g11 h7; omega) | (clear g9 g10 g11; omega) | omega))).symm rfl).trans ((g_b2 (by (first | (clear g9 g10 g11 h7; omega) | (clear g9 g10 g11; omega) | omega)) (by (first | (clear g9 g10 g11 h7; omega) | (clear g9 g10 g11; omega) | omega)) (Or.inl rfl)).trans (g_v rfl rfl (by (first | (clear g9 g10 g11 h7; omega) | (clear g9 g10 g11; omega) | omega)) rfl (by (first | (clear g9 g10 g11 h7; omega) | (clear g9 g10 g11; omega) | omega)))))⟩) (fun z => ginl (by (first | (clear g9 g10 g11 h7; omega) | (clear g9 g10 g11; omega) | omega)) (by (first | (clear g9 g10 g11 h7; omega) | (clear g9 g10 g11; omega) | omega)) (g11 (by (first | (clear g9 g10 g11 h7; omega) | (clear g9 g10 g11; omega) | omega)))) (by (first | (clear g9 g10 g11 h7; omega) | (clear g9 g10 g11; omega) | omega))
set_option maxRecDepth 4000 in
set_option maxHeartbeats 0 in
theorem U_60_1 {X : mm_X} {d : Nat} {M : mm_M} {Q : Option Value → mm_M → Prop} {q : Nat} {p : Nat} {o : Int32} {t : Nat → Int} {nn : Int} {a : Int} {sg : x_S} {b : Int} {W9 : List Int} {P9 : x_GP} (hX : g_X X) (hd : 3 + 4 * (8 - o.toInt) ≤ (d : Int)) (hq : q = 67 ∨ q = 72) (hp : p = 49 ∨ p = 58) (q1 : 0 ≤ o.toInt) (q2 : o.toInt ≤ 8) (q3 : o.toInt = b) (q4 : CS M t nn) (q5 : (M.2.1 1 9).toInt = a) (q6 : PLs M p sg) (q7 : LQc M q P9) (q8 : (M.2.1 q 4).toInt = P9.2 + x_wc W9) (hr : RE_58 (8 - o.toInt)) (h : ∀ (r : Int32) (M1 : mm_M), g_G M1 → FR (md_qq q) M M1 → (0 ≤ r.toInt) → (r.toInt ≤ 1) → CS M1 t nn → (r.toInt = 1 → (M.2.1 q 4).toInt < (M1.2.1 q 4).toInt) → ((r.toInt = 1 → ∃ P2 : x_GP, LQc M1 q P2 ∧ (M1.2.1 q 4).toInt = P2.2 + x_wc W9 ∧ x_gg t nn sg 0 b (M.2.1 q 4).toInt W9 P9 a = x_gg t nn sg 1 b (M1.2.1 q 4).toInt W9 P2 (M1.2.1 1 9).toInt)) → ((r.toInt = 0 → x_gg t nn sg 0 b (M.2.1 q 4).toInt W9 P9 a = Sum.inl ((M1.2.1 1 10).toInt, (M1.2.1 1 11).toInt))) → Q (some (.int r)) M1) : ∀ nn9 : Nat, (∀ (N : mm_M) (x4 : Int32) (u5 : Value) (u6 : Value), g_G N → FR (md_qq q) M N → (0 ≤ x4.toInt) → (x4.toInt ≤ 41) → (x4.toInt ≤ (N.2.1 q 4).toInt) → (o.toInt = o.toInt) → (CS N t nn) → (PLs N p sg) → ((M.2.1 q 4).toInt ≤ (N.2.1 q 4).toInt) → (LQc N q P9) → ((N.2.1 q 4).toInt = P9.2 + x4.toInt + x_wc W9) → (x_gg t nn sg 0 b (M.2.1 q 4).toInt W9 P9 a = x_gg t nn sg 0 b (N.2.1 q 4).toInt (x_2s (x4.toInt).toNat W9) P9 (N.2.1 1 9).toInt) → 41 - x4.toInt < (nn9 : Int) → mm_T X d 60 3 [.ref q, .ref 1, .ref p, .int o, .int x4, u5, u6] [] N Q) := by
  intro nn9
  induction nn9 with
  | zero =>
    intro N x4 u5 u6 hG F0 g1 g2 g3 g4 g5 g6 g7 g8 g9 g10 hm
    have b_30 := g_b hG (a := q) (i := 4) (lo := 0) (hi := 40) (by rcases hq with rfl | rfl <;> rfl) (by rcases hq with rfl | rfl <;> rfl)
    exfalso; omega
  | succ nn9 ih =>
    intro N x4 u5 u6 hG F0 g1 g2 g3 g4 g5 g6 g7 g8 g9 g10 hm
    have b_31 := g_b hG (a := q) (i := 4) (lo := 0) (hi := 40) (by rcases hq with rfl | rfl <;> rfl) (by rcases hq with rfl | rfl <;> rfl)
    have z_32 := x_wc_b W9
    have z_33 := g8.1
    have c_34 := CS_u g5 (a := (N.2.1 1 9).toInt) (by omega)
    unfold x_C at c_34
    have z_35 := x_kx_q (x_val t nn (N.2.1 1 9).toInt)
    have z_36 := x_wc_2i (n := x4.toInt) (W := W9) (by omega)
    have z_37 := x_wc_b (x_2s (x4.toInt).toNat W9)
    refine to_i (pc := 3) rw_60_3 rfl (to_c (pc := 5) rw_60_5 (x := (40 : Int32)) rfl rfl (b_cgt (pc := 7) rw_60_7 (A := x4.toInt) (B := 40) rfl rfl (fun h38 => ?_) (fun h38 => ?_)))
    · refine to_an (pc := 35) rw_60_35 rfl (tt_gI (pc := 36) rw_60_36 (g_o hG rfl) (v := (N.2.1 1 7)) rfl (to_c (pc := 39) rw_60_39 (x := (40 : Int32)) rfl rfl (b_cne (pc := 41) rw_60_41 (A := (N.2.1 1 7).toInt) (B := 40) rfl rfl (fun h39 => ?_) (fun h39 => ?_))))
      · refine to_an (pc := 54) rw_60_54 rfl (to_an (pc := 55) rw_60_55 rfl (to_an (pc := 56) rw_60_56 rfl (s_v (pc := 57) rw_60_57 (by (first | (clear h39; omega) | omega)) (ls0 := [.ref q, .ref 1, .ref p, .null, .null, .null, .null]) rfl (Nat.le_of_ble_eq_true rfl) (Nat.le_of_ble_eq_true rfl) rfl (to_rc rfl rfl rfl (g_o hG (by rcases hq with rfl | rfl <;> rfl))) rfl (E_62 hX (by (first | (clear h39; omega) | omega)) hG hq hp g5 (by (first | (clear h39; omega) | omega)) g6 g8 (by (first | (clear h39; omega) | omega)) (by (first | (clear h39; omega) | omega)) (by (first | (clear h39; omega) | omega)) (q := q) (p := p) (t := t) (nn := nn) (a := (N.2.1 1 9).toInt) (sg := sg) (b := b) (W9 := (x_2s (x4.toInt).toNat W9)) (P9 := P9) (fun r40 M49 hG42 F41 p_43 p_44 p_45 p_46 p_47 p_48 => ?_)))))
        have F50 := FR.c F0 F41 (fun a i z => show a = 1 ∧ 5 ≤ i ∨ 3 ≤ a ∧ a ≤ 5 ∨ q ≤ a ∧ a ≤ q + 4 by have z : a = 1 ∧ 5 ≤ i ∨ 3 ≤ a ∧ a ≤ 5 ∨ q ≤ a ∧ a ≤ q + 4 := z; omega)
        have b_51 := g_b hG42 (a := q) (i := 4) (lo := 0) (hi := 40) (by rcases hq with rfl | rfl <;> rfl) (by rcases hq with rfl | rfl <;> rfl)
        rcases (show r40.toInt = 0 ∨ r40.toInt = 1 by (first | (clear h39; omega) | omega)) with h52 | h52
        · skip
          have p_53 := p_48 (by (first | (clear h39; omega) | omega))
          clear p_46 p_47 p_48
          have z_54 := g10.trans p_53
          refine to_is (pc := 60) rw_60_60 (ls2 := [.ref q, .ref 1, .ref p, .int o, .int x4, .int r40, u6]) rfl rfl (to_c (pc := 62) rw_60_62 (x := (0 : Int32)) rfl rfl (to_is (pc := 63) rw_60_63 (ls2 := [.ref q, .ref 1, .ref p, .int o, .int x4, .int r40, .int (0 : Int32)]) rfl rfl ?_))
          have k_55 : (0 : Int32).toInt = 0 := rfl
          have j_56 := (PLs_f (fun a i z => F_n F41 (show ¬ (a = 1 ∧ 5 ≤ i ∨ 3 ≤ a ∧ a ≤ 5 ∨ q ≤ a ∧ a ≤ q + 4) by (first | (clear h39; omega) | omega)) rfl) g6)
          exact (U_60_0 (q := q) (p := p) (o := o) (t := t) (nn := nn) (a := a) (sg := sg) (b := b) (W9 := W9) (P9 := P9) hX hd hq hp q1 q2 q3 q4 q5 q6 q7 q8 hr h ((41 - (0 : Int32).toInt).toNat + 1)) M49 (.ref 1) (.ref p) (.int o) x4 r40 (0 : Int32) hG42 F50 (by (first | (clear h39; omega) | omega)) (by (first | (clear h39; omega) | omega)) (by (first | (clear h39; omega) | omega)) (by (first | (clear h39; omega) | omega)) (by (first | (clear h39; omega) | omega)) (by (first | (clear h39; omega) | omega)) p_45 j_56 (by (first | (clear h39; omega) | omega)) (fun z => by exfalso; omega) (fun _ => ginl (by (first | (clear h39; omega) | omega)) (by (first | (clear h39; omega) | omega)) z_54) (by (first | (clear h39; omega) | omega))
        · skip
          have p_57 := p_46 (by (first | (clear h39; omega) | omega))
          have p_58 := p_47 (by (first | (clear h39; omega) | omega))
          clear p_46 p_47 p_48
          obtain ⟨P59, P59a, P59b, P59c⟩ := p_58
          have z_60 := P59a.1
          have z_61 := g10.trans P59c
          refine to_is (pc := 60) rw_60_60 (ls2 := [.ref q, .ref 1, .ref p, .int o, .int x4, .int r40, u6]) rfl rfl (to_c (pc := 62) rw_60_62 (x := (0 : Int32)) rfl rfl (to_is (pc := 63) rw_60_63 (ls2 := [.ref q, .ref 1, .ref p, .int o, .int x4, .int r40, .int (0 : Int32)]) rfl rfl ?_))
          have k_62 : (0 : Int32).toInt = 0 := rfl
          have j_63 := (PLs_f (fun a i z => F_n F41 (show ¬ (a = 1 ∧ 5 ≤ i ∨ 3 ≤ a ∧ a ≤ 5 ∨ q ≤ a ∧ a ≤ q + 4) by (first | (clear h39; omega) | omega)) rfl) g6)
          exact (U_60_0 (q := q) (p := p) (o := o) (t := t) (nn := nn) (a := a) (sg := sg) (b := b) (W9 := W9) (P9 := P9) hX hd hq hp q1 q2 q3 q4 q5 q6 q7 q8 hr h ((41 - (0 : Int32).toInt).toNat + 1)) M49 (.ref 1) (.ref p) (.int o) x4 r40 (0 : Int32) hG42 F50 (by (first | (clear h39; omega) | omega)) (by (first | (clear h39; omega) | omega)) (by (first | (clear h39; omega) | omega)) (by (first | (clear h39; omega) | omega)) (by (first | (clear h39; omega) | omega)) (by (first | (clear h39; omega) | omega)) p_45 j_63 (by (first | (clear h39; omega) | omega)) (fun _ => ⟨P59, P59a, (by (first | (clear h39; omega) | omega)), (by (first | (clear h39; omega) | omega)), z_61.trans (g_v rfl rfl (by (first | (clear h39; omega) | omega)) (by rw [show x4.toInt - (0 : Int32).toInt = x4.toInt by (first | (clear h39; omega) | omega)]) (by (first | (clear h39; omega) | omega)))⟩) (fun z => by exfalso; omega) (by (first | (clear h39; omega) | omega))
      · refine to_an (pc := 44) rw_60_44 rfl (to_an (pc := 45) rw_60_45 rfl (to_an (pc := 46) rw_60_46 rfl (to_in (pc := 47) rw_60_47 rfl (s_v (pc := 48) rw_60_48 (by omega) (ls0 := [.ref q, .ref 1, .ref p, .int o]) rfl (Nat.le_of_ble_eq_true rfl) (Nat.le_of_ble_eq_true rfl) rfl (to_rc rfl rfl rfl (g_o hG (by rcases hq with rfl | rfl <;> rfl))) rfl (E_61 hX (by omega) hG hq hp (by omega) (by omega) (by omega) g5 (by omega) g6 g8 (by omega) (by omega) hr (q := q) (p := p) (o := o) (t := t) (nn := nn) (a := (N.2.1 1 9).toInt) (sg := sg) (b := b) (W9 := (x_2s (x4.toInt).toNat W9)) (P9 := P9) (fun r64 M73 hG66 F65 p_67 p_68 p_69 p_70 p_71 p_72 => ?_))))))
        have F74 := FR.c F0 F65 (fun a i z => show a = 1 ∧ 5 ≤ i ∨ 3 ≤ a ∧ a ≤ 5 ∨ q ≤ a ∧ a ≤ q + 4 by have z : a = 1 ∧ 5 ≤ i ∨ 3 ≤ a ∧ a ≤ 5 ∨ q ≤ a ∧ a ≤ q + 4 := z; omega)
        have b_75 := g_b hG66 (a := q) (i := 4) (lo := 0) (hi := 40) (by rcases hq with rfl | rfl <;> rfl) (by rcases hq with rfl | rfl <;> rfl)
        rcases (show r64.toInt = 0 ∨ r64.toInt = 1 by omega) with h76 | h76
        · skip
          have p_77 := p_72 (by omega)
          clear p_70 p_71 p_72
          have z_78 := g10.trans p_77
          refine to_go (pc := 51) rw_60_51 (to_is (pc := 60) rw_60_60 (ls2 := [.ref q, .ref 1, .ref p, .int o, .int x4, .int r64, u6]) rfl rfl (to_c (pc := 62) rw_60_62 (x := (0 : Int32)) rfl rfl (to_is (pc := 63) rw_60_63 (ls2 := [.ref q, .ref 1, .ref p, .int o, .int x4, .int r64, .int (0 : Int32)]) rfl rfl ?_)))
          have k_79 : (0 : Int32).toInt = 0 := rfl
          have j_80 := (PLs_f (fun a i z => F_n F65 (show ¬ (a = 1 ∧ 5 ≤ i ∨ 3 ≤ a ∧ a ≤ 5 ∨ q ≤ a ∧ a ≤ q + 4) by omega) rfl) g6)
          exact (U_60_0 (q := q) (p := p) (o := o) (t := t) (nn := nn) (a := a) (sg := sg) (b := b) (W9 := W9) (P9 := P9) hX hd hq hp q1 q2 q3 q4 q5 q6 q7 q8 hr h ((41 - (0 : Int32).toInt).toNat + 1)) M73 (.ref 1) (.ref p) (.int o) x4 r64 (0 : Int32) hG66 F74 (by omega) (by omega) (by omega) (by omega) (by omega) (by omega) p_69 j_80 (by omega) (fun z => by exfalso; omega) (fun _ => ginl (by omega) (by omega) z_78) (by omega)
        · skip
          have p_81 := p_70 (by omega)
          have p_82 := p_71 (by omega)
          clear p_70 p_71 p_72
          obtain ⟨P83, P83a, P83b, P83c⟩ := p_82
          have z_84 := P83a.1
          have z_85 := g10.trans P83c
          refine to_go (pc := 51) rw_60_51 (to_is (pc := 60) rw_60_60 (ls2 := [.ref q, .ref 1, .ref p, .int o, .int x4, .int r64, u6]) rfl rfl (to_c (pc := 62) rw_60_62 (x := (0 : Int32)) rfl rfl (to_is (pc := 63) rw_60_63 (ls2 := [.ref q, .ref 1, .ref p, .int o, .int x4, .int r64, .int (0 : Int32)]) rfl rfl ?_)))
          have k_86 : (0 : Int32).toInt = 0 := rfl
          have j_87 := (PLs_f (fun a i z => F_n F65 (show ¬ (a = 1 ∧ 5 ≤ i ∨ 3 ≤ a ∧ a ≤ 5 ∨ q ≤ a ∧ a ≤ q + 4) by omega) rfl) g6)
          exact (U_60_0 (q := q) (p := p) (o := o) (t := t) (nn := nn) (a := a) (sg := sg) (b := b) (W9 := W9) (P9 := P9) hX hd hq hp q1 q2 q3 q4 q5 q6 q7 q8 hr h ((41 - (0 : Int32).toInt).toNat + 1)) M73 (.ref 1) (.ref p) (.int o) x4 r64 (0 : Int32) hG66 F74 (by omega) (by omega) (by omega) (by omega) (by omega) (by omega) p_69 j_87 (by omega) (fun _ => ⟨P83, P83a, (by omega), (by omega), z_85.trans (g_v rfl rfl (by omega) (by rw [show x4.toInt - (0 : Int32).toInt = x4.toInt by omega]) (by omega))⟩) (fun z => by exfalso; omega) (by omega)
    · refine to_an (pc := 10) rw_60_10 rfl (to_c (pc := 11) rw_60_11 (x := (486146048 : Int32)) rfl rfl (s_v (pc := 13) rw_60_13 (by omega) (ls0 := [.ref 1, .int (486146048 : Int32)]) rfl (Nat.le_of_ble_eq_true rfl) (Nat.le_of_ble_eq_true rfl) rfl (to_rc rfl rfl rfl (g_o hG rfl)) rfl ?_))
      have k_88 : (486146048 : Int32).toInt = 486146048 := rfl
      refine E_86 hX (by omega) hG g5 (by omega) (x := (486146048 : Int32)) (t := t) (nn := nn) (a := (N.2.1 1 9).toInt) (fun r89 M96 hG91 F90 p_92 p_93 p_94 p_95 => ?_)
      have F97 := FR.c F0 F90 (fun a i z => show a = 1 ∧ 5 ≤ i ∨ 3 ≤ a ∧ a ≤ 5 ∨ q ≤ a ∧ a ≤ q + 4 by have z : a < 0 := z; omega)
      rcases (show r89.toInt = 0 ∨ r89.toInt = 1 by (first | (clear p_94 p_95; omega) | omega)) with h98 | h98
      · skip
        have p_99 := p_95 (by (first | (clear p_94 p_95; omega) | omega))
        clear p_94 p_95
        refine b_ieq_t (pc := 16) rw_60_16 (A := r89.toInt) rfl (by (first | (clear p_94 p_95; omega) | omega)) (to_an (pc := 35) rw_60_35 rfl ?_)
        have c_100 : M96.2.1 1 7 = (N.2.1 1 7) := (F_n F90 (show ¬ (1 < 0) by decide) rfl)
        refine tt_gI (pc := 36) rw_60_36 (g_o hG91 rfl) (v := (N.2.1 1 7)) c_100 (to_c (pc := 39) rw_60_39 (x := (40 : Int32)) rfl rfl (b_cne (pc := 41) rw_60_41 (A := (N.2.1 1 7).toInt) (B := 40) rfl rfl (fun h101 => ?_) (fun h101 => ?_)))
        · refine to_an (pc := 54) rw_60_54 rfl (to_an (pc := 55) rw_60_55 rfl (to_an (pc := 56) rw_60_56 rfl (s_v (pc := 57) rw_60_57 (by (first | (clear p_94 p_95 h101; omega) | (clear p_94 p_95; omega) | omega)) (ls0 := [.ref q, .ref 1, .ref p, .null, .null, .null, .null]) rfl (Nat.le_of_ble_eq_true rfl) (Nat.le_of_ble_eq_true rfl) rfl (to_rc rfl rfl rfl (g_o hG91 (by rcases hq with rfl | rfl <;> rfl))) rfl ?_)))
          have c_102 : M96.2.1 q 4 = (N.2.1 q 4) := (F_n F90 (show ¬ (q < 0) by (first | (clear p_94 p_95 h101; omega) | (clear p_94 p_95; omega) | omega)) rfl)
          have t_103 : (M96.2.1 q 4).toInt = (N.2.1 q 4).toInt := congrArg Int32.toInt c_102
          have j_104 := (CS_f (tg_28 F90) g5)
          have c_105 : M96.2.1 1 9 = (N.2.1 1 9) := (F_n F90 (show ¬ (1 < 0) by decide) rfl)
          have t_106 : (M96.2.1 1 9).toInt = (N.2.1 1 9).toInt := congrArg Int32.toInt c_105
          have j_107 := (PLs_f (fun a i z => F_n F90 (show ¬ (a < 0) by (first | (clear p_94 p_95 h101; omega) | (clear p_94 p_95; omega) | omega)) rfl) g6)
          have z_108 := LQc_f (fun a i z => (F_n F90 (show ¬ (a < 0) by (first | (clear p_94 p_95 h101; omega) | (clear p_94 p_95; omega) | omega)) rfl)) g8
          refine E_62 hX (by (first | (clear p_94 p_95 h101; omega) | (clear p_94 p_95; omega) | omega)) hG91 hq hp j_104 (by (first | (clear p_94 p_95 h101; omega) | (clear p_94 p_95; omega) | omega)) j_107 z_108 (by (first | (clear p_94 p_95 h101; omega) | (clear p_94 p_95; omega) | omega)) (by (first | (clear p_94 p_95 h101; omega) | (clear p_94 p_95; omega) | omega)) (by (first | (clear p_94 p_95 h101; omega) | (clear p_94 p_95; omega) | omega)) (q := q) (p := p) (t := t) (nn := nn) (a := (N.2.1 1 9).toInt) (sg := sg) (b := b) (W9 := (x_2s (x4.toInt).toNat W9)) (P9 := P9) (fun r109 M118 hG111 F110 p_112 p_113 p_114 p_115 p_116 p_117 => ?_)
          have F119 := FR.c F97 F110 (fun a i z => show a = 1 ∧ 5 ≤ i ∨ 3 ≤ a ∧ a ≤ 5 ∨ q ≤ a ∧ a ≤ q + 4 by have z : a = 1 ∧ 5 ≤ i ∨ 3 ≤ a ∧ a ≤ 5 ∨ q ≤ a ∧ a ≤ q + 4 := z; omega)
          have b_120 := g_b hG111 (a := q) (i := 4) (lo := 0) (hi := 40) (by rcases hq with rfl | rfl <;> rfl) (by rcases hq with rfl | rfl <;> rfl)
          rcases (show r109.toInt = 0 ∨ r109.toInt = 1 by (first | (clear p_94 p_95 h101 p_115 p_116 p_117; omega) | (clear p_94 p_95 p_115 p_116 p_117; omega) | omega)) with h121 | h121
          · skip
            have p_122 := p_117 (by (first | (clear p_94 p_95 h101 p_115 p_116 p_117; omega) | (clear p_94 p_95 p_115 p_116 p_117; omega) | omega))
            clear p_115 p_116 p_117
            have z_123 := g10.trans p_122
            refine to_is (pc := 60) rw_60_60 (ls2 := [.ref q, .ref 1, .ref p, .int o, .int x4, .int r109, u6]) rfl rfl (to_c (pc := 62) rw_60_62 (x := (0 : Int32)) rfl rfl (to_is (pc := 63) rw_60_63 (ls2 := [.ref q, .ref 1, .ref p, .int o, .int x4, .int r109, .int (0 : Int32)]) rfl rfl ?_))
            have k_124 : (0 : Int32).toInt = 0 := rfl
            have j_125 := (PLs_f (fun a i z => F_n F110 (show ¬ (a = 1 ∧ 5 ≤ i ∨ 3 ≤ a ∧ a ≤ 5 ∨ q ≤ a ∧ a ≤ q + 4) by (first | (clear p_94 p_95 h101 p_115 p_116 p_117; omega) | (clear p_94 p_95 p_115 p_116 p_117; omega) | omega)) rfl) j_107)
            exact (U_60_0 (q := q) (p := p) (o := o) (t := t) (nn := nn) (a := a) (sg := sg) (b := b) (W9 := W9) (P9 := P9) hX hd hq hp q1 q2 q3 q4 q5 q6 q7 q8 hr h ((41 - (0 : Int32).toInt).toNat + 1)) M118 (.ref 1) (.ref p) (.int o) x4 r109 (0 : Int32) hG111 F119 (by (first | (clear p_94 p_95 h101 p_115 p_116 p_117; omega) | (clear p_94 p_95 p_115 p_116 p_117; omega) | omega)) (by (first | (clear p_94 p_95 h101 p_115 p_116 p_117; omega) | (clear p_94 p_95 p_115 p_116 p_117; omega) | omega)) (by (first | (clear p_94 p_95 h101 p_115 p_116 p_117; omega) | (clear p_94 p_95 p_115 p_116 p_117; omega) | omega)) (by (first | (clear p_94 p_95 h101 p_115 p_116 p_117; omega) | (clear p_94 p_95 p_115 p_116 p_117; omega) | omega)) (by (first | (clear p_94 p_95 h101 p_115 p_116 p_117; omega) | (clear p_94 p_95 p_115 p_116 p_117; omega) | omega)) (by (first | (clear p_94 p_95 h101 p_115 p_116 p_117; omega) | (clear p_94 p_95 p_115 p_116 p_117; omega) | omega)) p_114 j_125 (by (first | (clear p_94 p_95 h101 p_115 p_116 p_117; omega) | (clear p_94 p_95 p_115 p_116 p_117; omega) | omega)) (fun z => by exfalso; omega) (fun _ => ginl (by (first | (clear p_94 p_95 h101 p_115 p_116 p_117; omega) | (clear p_94 p_95 p_115 p_116 p_117; omega) | omega)) (by (first | (clear p_94 p_95 h101 p_115 p_116 p_117; omega) | (clear p_94 p_95 p_115 p_116 p_117; omega) | omega)) z_123) (by (first | (clear p_94 p_95 h101 p_115 p_116 p_117; omega) | (clear p_94 p_95 p_115 p_116 p_117; omega) | omega))
          · skip
            have p_126 := p_115 (by (first | (clear p_94 p_95 h101 p_115 p_116 p_117; omega) | (clear p_94 p_95 p_115 p_116 p_117; omega) | omega))
            have p_127 := p_116 (by (first | (clear p_94 p_95 h101 p_115 p_116 p_117; omega) | (clear p_94 p_95 p_115 p_116 p_117; omega) | omega))
            clear p_115 p_116 p_117
            obtain ⟨P128, P128a, P128b, P128c⟩ := p_127
            have z_129 := P128a.1
            have z_130 := g10.trans P128c
            refine to_is (pc := 60) rw_60_60 (ls2 := [.ref q, .ref 1, .ref p, .int o, .int x4, .int r109, u6]) rfl rfl (to_c (pc := 62) rw_60_62 (x := (0 : Int32)) rfl rfl (to_is (pc := 63) rw_60_63 (ls2 := [.ref q, .ref 1, .ref p, .int o, .int x4, .int r109, .int (0 : Int32)]) rfl rfl ?_))
            have k_131 : (0 : Int32).toInt = 0 := rfl
            have j_132 := (PLs_f (fun a i z => F_n F110 (show ¬ (a = 1 ∧ 5 ≤ i ∨ 3 ≤ a ∧ a ≤ 5 ∨ q ≤ a ∧ a ≤ q + 4) by (first | (clear p_94 p_95 h101 p_115 p_116 p_117; omega) | (clear p_94 p_95 p_115 p_116 p_117; omega) | omega)) rfl) j_107)
            exact (U_60_0 (q := q) (p := p) (o := o) (t := t) (nn := nn) (a := a) (sg := sg) (b := b) (W9 := W9) (P9 := P9) hX hd hq hp q1 q2 q3 q4 q5 q6 q7 q8 hr h ((41 - (0 : Int32).toInt).toNat + 1)) M118 (.ref 1) (.ref p) (.int o) x4 r109 (0 : Int32) hG111 F119 (by (first | (clear p_94 p_95 h101 p_115 p_116 p_117; omega) | (clear p_94 p_95 p_115 p_116 p_117; omega) | omega)) (by (first | (clear p_94 p_95 h101 p_115 p_116 p_117; omega) | (clear p_94 p_95 p_115 p_116 p_117; omega) | omega)) (by (first | (clear p_94 p_95 h101 p_115 p_116 p_117; omega) | (clear p_94 p_95 p_115 p_116 p_117; omega) | omega)) (by (first | (clear p_94 p_95 h101 p_115 p_116 p_117; omega) | (clear p_94 p_95 p_115 p_116 p_117; omega) | omega)) (by (first | (clear p_94 p_95 h101 p_115 p_116 p_117; omega) | (clear p_94 p_95 p_115 p_116 p_117; omega) | omega)) (by (first | (clear p_94 p_95 h101 p_115 p_116 p_117; omega) | (clear p_94 p_95 p_115 p_116 p_117; omega) | omega)) p_114 j_132 (by (first | (clear p_94 p_95 h101 p_115 p_116 p_117; omega) | (clear p_94 p_95 p_115 p_116 p_117; omega) | omega)) (fun _ => ⟨P128, P128a, (by (first | (clear p_94 p_95 h101 p_115 p_116 p_117; omega) | (clear p_94 p_95 p_115 p_116 p_117; omega) | omega)), (by (first | (clear p_94 p_95 h101 p_115 p_116 p_117; omega) | (clear p_94 p_95 p_115 p_116 p_117; omega) | omega)), z_130.trans (g_v rfl rfl (by (first | (clear p_94 p_95 h101 p_115 p_116 p_117; omega) | (clear p_94 p_95 p_115 p_116 p_117; omega) | omega)) (by rw [show x4.toInt - (0 : Int32).toInt = x4.toInt by (first | (clear p_94 p_95 h101 p_115 p_116 p_117; omega) | (clear p_94 p_95 p_115 p_116 p_117; omega) | omega)]) (by (first | (clear p_94 p_95 h101 p_115 p_116 p_117; omega) | (clear p_94 p_95 p_115 p_116 p_117; omega) | omega)))⟩) (fun z => by exfalso; omega) (by (first | (clear p_94 p_95 h101 p_115 p_116 p_117; omega) | (clear p_94 p_95 p_115 p_116 p_117; omega) | omega))
        · refine to_an (pc := 44) rw_60_44 rfl (to_an (pc := 45) rw_60_45 rfl (to_an (pc := 46) rw_60_46 rfl (to_in (pc := 47) rw_60_47 rfl (s_v (pc := 48) rw_60_48 (by (first | (clear p_94 p_95; omega) | omega)) (ls0 := [.ref q, .ref 1, .ref p, .int o]) rfl (Nat.le_of_ble_eq_true rfl) (Nat.le_of_ble_eq_true rfl) rfl (to_rc rfl rfl rfl (g_o hG91 (by rcases hq with rfl | rfl <;> rfl))) rfl ?_))))
          have c_133 : M96.2.1 q 4 = (N.2.1 q 4) := (F_n F90 (show ¬ (q < 0) by (first | (clear p_94 p_95; omega) | omega)) rfl)
          have t_134 : (M96.2.1 q 4).toInt = (N.2.1 q 4).toInt := congrArg Int32.toInt c_133
          have j_135 := (CS_f (tg_28 F90) g5)
          have c_136 : M96.2.1 1 9 = (N.2.1 1 9) := (F_n F90 (show ¬ (1 < 0) by decide) rfl)
          have t_137 : (M96.2.1 1 9).toInt = (N.2.1 1 9).toInt := congrArg Int32.toInt c_136
          have j_138 := (PLs_f (fun a i z => F_n F90 (show ¬ (a < 0) by (first | (clear p_94 p_95; omega) | omega)) rfl) g6)
          have z_139 := LQc_f (fun a i z => (F_n F90 (show ¬ (a < 0) by (first | (clear p_94 p_95; omega) | omega)) rfl)) g8
          refine E_61 hX (by (first | (clear p_94 p_95; omega) | omega)) hG91 hq hp (by (first | (clear p_94 p_95; omega) | omega)) (by (first | (clear p_94 p_95; omega) | omega)) (by (first | (clear p_94 p_95; omega) | omega)) j_135 (by (first | (clear p_94 p_95; omega) | omega)) j_138 z_139 (by (first | (clear p_94 p_95; omega) | omega)) (by (first | (clear p_94 p_95; omega) | omega)) hr (q := q) (p := p) (o := o) (t := t) (nn := nn) (a := (N.2.1 1 9).toInt) (sg := sg) (b := b) (W9 := (x_2s (x4.toInt).toNat W9)) (P9 := P9) (fun r140 M149 hG142 F141 p_143 p_144 p_145 p_146 p_147 p_148 => ?_)
          have F150 := FR.c F97 F141 (fun a i z => show a = 1 ∧ 5 ≤ i ∨ 3 ≤ a ∧ a ≤ 5 ∨ q ≤ a ∧ a ≤ q + 4 by have z : a = 1 ∧ 5 ≤ i ∨ 3 ≤ a ∧ a ≤ 5 ∨ q ≤ a ∧ a ≤ q + 4 := z; omega)
          have b_151 := g_b hG142 (a := q) (i := 4) (lo := 0) (hi := 40) (by rcases hq with rfl | rfl <;> rfl) (by rcases hq with rfl | rfl <;> rfl)
          rcases (show r140.toInt = 0 ∨ r140.toInt = 1 by (first | (clear p_94 p_95 p_146 p_147 p_148; omega) | omega)) with h152 | h152
          · skip
            have p_153 := p_148 (by (first | (clear p_94 p_95 p_146 p_147 p_148; omega) | omega))
            clear p_146 p_147 p_148
            have z_154 := g10.trans p_153
            refine to_go (pc := 51) rw_60_51 (to_is (pc := 60) rw_60_60 (ls2 := [.ref q, .ref 1, .ref p, .int o, .int x4, .int r140, u6]) rfl rfl (to_c (pc := 62) rw_60_62 (x := (0 : Int32)) rfl rfl (to_is (pc := 63) rw_60_63 (ls2 := [.ref q, .ref 1, .ref p, .int o, .int x4, .int r140, .int (0 : Int32)]) rfl rfl ?_)))
            have k_155 : (0 : Int32).toInt = 0 := rfl
            have j_156 := (PLs_f (fun a i z => F_n F141 (show ¬ (a = 1 ∧ 5 ≤ i ∨ 3 ≤ a ∧ a ≤ 5 ∨ q ≤ a ∧ a ≤ q + 4) by (first | (clear p_94 p_95 p_146 p_147 p_148; omega) | omega)) rfl) j_138)
            exact (U_60_0 (q := q) (p := p) (o := o) (t := t) (nn := nn) (a := a) (sg := sg) (b := b) (W9 := W9) (P9 := P9) hX hd hq hp q1 q2 q3 q4 q5 q6 q7 q8 hr h ((41 - (0 : Int32).toInt).toNat + 1)) M149 (.ref 1) (.ref p) (.int o) x4 r140 (0 : Int32) hG142 F150 (by (first | (clear p_94 p_95 p_146 p_147 p_148; omega) | omega)) (by (first | (clear p_94 p_95 p_146 p_147 p_148; omega) | omega)) (by (first | (clear p_94 p_95 p_146 p_147 p_148; omega) | omega)) (by (first | (clear p_94 p_95 p_146 p_147 p_148; omega) | omega)) (by (first | (clear p_94 p_95 p_146 p_147 p_148; omega) | omega)) (by (first | (clear p_94 p_95 p_146 p_147 p_148; omega) | omega)) p_145 j_156 (by (first | (clear p_94 p_95 p_146 p_147 p_148; omega) | omega)) (fun z => by exfalso; omega) (fun _ => ginl (by (first | (clear p_94 p_95 p_146 p_147 p_148; omega) | omega)) (by (first | (clear p_94 p_95 p_146 p_147 p_148; omega) | omega)) z_154) (by (first | (clear p_94 p_95 p_146 p_147 p_148; omega) | omega))
          · skip
            have p_157 := p_146 (by (first | (clear p_94 p_95 p_146 p_147 p_148; omega) | omega))
            have p_158 := p_147 (by (first | (clear p_94 p_95 p_146 p_147 p_148; omega) | omega))
            clear p_146 p_147 p_148
            obtain ⟨P159, P159a, P159b, P159c⟩ := p_158
            have z_160 := P159a.1
            have z_161 := g10.trans P159c
            refine to_go (pc := 51) rw_60_51 (to_is (pc := 60) rw_60_60 (ls2 := [.ref q, .ref 1, .ref p, .int o, .int x4, .int r140, u6]) rfl rfl (to_c (pc := 62) rw_60_62 (x := (0 : Int32)) rfl rfl (to_is (pc := 63) rw_60_63 (ls2 := [.ref q, .ref 1, .ref p, .int o, .int x4, .int r140, .int (0 : Int32)]) rfl rfl ?_)))
            have k_162 : (0 : Int32).toInt = 0 := rfl
            have j_163 := (PLs_f (fun a i z => F_n F141 (show ¬ (a = 1 ∧ 5 ≤ i ∨ 3 ≤ a ∧ a ≤ 5 ∨ q ≤ a ∧ a ≤ q + 4) by (first | (clear p_94 p_95 p_146 p_147 p_148; omega) | omega)) rfl) j_138)
            exact (U_60_0 (q := q) (p := p) (o := o) (t := t) (nn := nn) (a := a) (sg := sg) (b := b) (W9 := W9) (P9 := P9) hX hd hq hp q1 q2 q3 q4 q5 q6 q7 q8 hr h ((41 - (0 : Int32).toInt).toNat + 1)) M149 (.ref 1) (.ref p) (.int o) x4 r140 (0 : Int32) hG142 F150 (by (first | (clear p_94 p_95 p_146 p_147 p_148; omega) | omega)) (by (first | (clear p_94 p_95 p_146 p_147 p_148; omega) | omega)) (by (first | (clear p_94 p_95 p_146 p_147 p_148; omega) | omega)) (by (first | (clear p_94 p_95 p_146 p_147 p_148; omega) | omega)) (by (first | (clear p_94 p_95 p_146 p_147 p_148; omega) | omega)) (by (first | (clear p_94 p_95 p_146 p_147 p_148; omega) | omega)) p_145 j_163 (by (first | (clear p_94 p_95 p_146 p_147 p_148; omega) | omega)) (fun _ => ⟨P159, P159a, (by (first | (clear p_94 p_95 p_146 p_147 p_148; omega) | omega)), (by (first | (clear p_94 p_95 p_146 p_147 p_148; omega) | omega)), z_161.trans (g_v rfl rfl (by (first | (clear p_94 p_95 p_146 p_147 p_148; omega) | omega)) (by rw [show x4.toInt - (0 : Int32).toInt = x4.toInt by (first | (clear p_94 p_95 p_146 p_147 p_148; omega) | omega)]) (by (first | (clear p_94 p_95 p_146 p_147 p_148; omega) | omega)))⟩) (fun z => by exfalso; omega) (by (first | (clear p_94 p_95 p_146 p_147 p_148; omega) | omega))
      · skip
        have p_164 := p_94 (by (first | (clear p_94 p_95; omega) | omega))
        clear p_94 p_95
        refine b_ieq_f (pc := 16) rw_60_16 (A := r89.toInt) rfl (by (first | (clear p_94 p_95; omega) | omega)) (to_an (pc := 19) rw_60_19 rfl (to_an (pc := 20) rw_60_20 rfl (s_v (pc := 21) rw_60_21 (by (first | (clear p_94 p_95; omega) | omega)) (ls0 := [.ref q, .ref 1]) rfl (Nat.le_of_ble_eq_true rfl) (Nat.le_of_ble_eq_true rfl) rfl (to_rc rfl rfl rfl (g_o hG91 (by rcases hq with rfl | rfl <;> rfl))) rfl ?_)))
        have c_165 : M96.2.1 q 4 = (N.2.1 q 4) := (F_n F90 (show ¬ (q < 0) by (first | (clear p_94 p_95; omega) | omega)) rfl)
        have t_166 : (M96.2.1 q 4).toInt = (N.2.1 q 4).toInt := congrArg Int32.toInt c_165
        have j_167 := (CS_f (tg_28 F90) g5)
        have c_168 : M96.2.1 1 9 = (N.2.1 1 9) := (F_n F90 (show ¬ (1 < 0) by decide) rfl)
        have t_169 : (M96.2.1 1 9).toInt = (N.2.1 1 9).toInt := congrArg Int32.toInt c_168
        refine E_63 hX (by (first | (clear p_94 p_95; omega) | omega)) hG91 hq j_167 (by (first | (clear p_94 p_95; omega) | omega)) (q := q) (t := t) (nn := nn) (a := (N.2.1 1 9).toInt) (fun r170 M178 hG172 F171 p_173 p_174 p_175 p_176 p_177 => ?_)
        have F179 := FR.c F97 F171 (fun a i z => show a = 1 ∧ 5 ≤ i ∨ 3 ≤ a ∧ a ≤ 5 ∨ q ≤ a ∧ a ≤ q + 4 by have z : a = 1 ∧ 6 ≤ i ∧ i ≤ 11 ∨ a = q ∧ i = 4 := z; omega)
        have b_180 := g_b hG172 (a := q) (i := 4) (lo := 0) (hi := 40) (by rcases hq with rfl | rfl <;> rfl) (by rcases hq with rfl | rfl <;> rfl)
        rcases (show r170.toInt = 0 ∨ r170.toInt = 1 by (first | (clear p_94 p_95 p_176 p_177; omega) | omega)) with h181 | h181
        · skip
          have p_182 := p_177 (by (first | (clear p_94 p_95 p_176 p_177; omega) | omega))
          clear p_176 p_177
          have z_183 := g10.trans (g_nox (by (first | (clear p_94 p_95 p_176 p_177; omega) | omega)) (by (first | (clear p_94 p_95 p_176 p_177; omega) | omega)) (by (first | (clear p_94 p_95 p_176 p_177; omega) | omega)) (by (first | (clear p_94 p_95 p_176 p_177; omega) | omega)))
          refine b_ine_f (pc := 24) rw_60_24 (A := r170.toInt) rfl (by (first | (clear p_94 p_95 p_176 p_177; omega) | omega)) (to_c (pc := 27) rw_60_27 (x := (0 : Int32)) rfl rfl (s_r1 (pc := 28) rw_60_28 (A := 0) rfl (by decide) ?_))
          have k_184 : (0 : Int32).toInt = 0 := rfl
          exact h (0 : Int32) M178 hG172 F179 (by decide) (by decide) p_175 (by (first | (clear p_94 p_95 p_176 p_177; omega) | omega)) (fun z => by exfalso; omega) (fun _ => ginl (by (first | (clear p_94 p_95 p_176 p_177; omega) | omega)) (by (first | (clear p_94 p_95 p_176 p_177; omega) | omega)) z_183)
        · skip
          have p_185 := p_176 (by (first | (clear p_94 p_95 p_176 p_177; omega) | omega))
          clear p_176 p_177
          have z_186 := g10.trans (g_noq (by (first | (clear p_94 p_95 p_176 p_177; omega) | omega)) (by (first | (clear p_94 p_95 p_176 p_177; omega) | omega)) (by (first | (clear p_94 p_95 p_176 p_177; omega) | omega)) (by (first | (clear p_94 p_95 p_176 p_177; omega) | omega)))
          refine b_ine_t (pc := 24) rw_60_24 (A := r170.toInt) rfl (by (first | (clear p_94 p_95 p_176 p_177; omega) | omega)) (s_inc (pc := 29) rw_60_29 (ls2 := fun v => [.ref q, .ref 1, .ref p, .int o, .int v, u5, u6]) rfl rfl (fun _ => rfl) (A := x4.toInt) (B := 1) rfl rfl (by (first | (clear p_94 p_95 p_176 p_177; omega) | omega)) (fun v187 e188 => to_go (pc := 32) rw_60_32 ?_))
          have j_189 := (PLs_f (fun a i z => F_n F171 (show ¬ (a = 1 ∧ 6 ≤ i ∧ i ≤ 11 ∨ a = q ∧ i = 4) by (first | (clear p_94 p_95 p_176 p_177; omega) | omega)) rfl) (PLs_f (fun a i z => F_n F90 (show ¬ (a < 0) by (first | (clear p_94 p_95 p_176 p_177; omega) | omega)) rfl) g6))
          have z_190 := LQc_f (fun a i z => (F_n F171 (show ¬ (a = 1 ∧ 6 ≤ i ∧ i ≤ 11 ∨ a = q ∧ i = 4) by (first | (clear p_94 p_95 p_176 p_177; omega) | omega)) (F_n F90 (show ¬ (a < 0) by (first | (clear p_94 p_95 p_176 p_177; omega) | omega)) rfl))) g8
          exact ih M178 v187 (u5) (u6) hG172 F179 (by (first | (clear p_94 p_95 p_176 p_177; omega) | omega)) (by (first | (clear p_94 p_95 p_176 p_177; omega) | omega)) (by (first | (clear p_94 p_95 p_176 p_177; omega) | omega)) (by (first | (clear p_94 p_95 p_176 p_177; omega) | omega)) p_175 j_189 (by (first | (clear p_94 p_95 p_176 p_177; omega) | omega)) z_190 (by (first | (clear p_94 p_95 p_176 p_177; omega) | omega)) (z_186.trans (g_v rfl rfl (show ((N.2.1 q 4).toInt + 1) = (M178.2.1 q 4).toInt by (first | (clear p_94 p_95 p_176 p_177; omega) | omega)) (x_2s_s (by (first | (clear p_94 p_95 p_176 p_177; omega) | omega)) (by (first | (clear p_94 p_95 p_176 p_177; omega) | omega))) (show (x_ns t nn (N.2.1 1 9).toInt) = (M178.2.1 1 9).toInt by (first | (clear p_94 p_95 p_176 p_177; omega) | omega)))) (by (first | (clear p_94 p_95 p_176 p_177; omega) | omega))
set_option maxRecDepth 4000 in
set_option maxHeartbeats 0 in
theorem E_60 {X : mm_X} {d : Nat} {M : mm_M} {Q : Option Value → mm_M → Prop} {q : Nat} {p : Nat} {o : Int32} {t : Nat → Int} {nn : Int} {a : Int} {sg : x_S} {b : Int} {W9 : List Int} {P9 : x_GP} (hX : g_X X) (hd : 3 + 4 * (8 - o.toInt) ≤ (d : Int)) (hG : g_G M) (hq : q = 67 ∨ q = 72) (hp : p = 49 ∨ p = 58) (q1 : 0 ≤ o.toInt) (q2 : o.toInt ≤ 8) (q3 : o.toInt = b) (q4 : CS M t nn) (q5 : (M.2.1 1 9).toInt = a) (q6 : PLs M p sg) (q7 : LQc M q P9) (q8 : (M.2.1 q 4).toInt = P9.2 + x_wc W9) (hr : RE_58 (8 - o.toInt)) (h : ∀ (r : Int32) (M1 : mm_M), g_G M1 → FR (md_qq q) M M1 → (0 ≤ r.toInt) → (r.toInt ≤ 1) → CS M1 t nn → (r.toInt = 1 → (M.2.1 q 4).toInt < (M1.2.1 q 4).toInt) → ((r.toInt = 1 → ∃ P2 : x_GP, LQc M1 q P2 ∧ (M1.2.1 q 4).toInt = P2.2 + x_wc W9 ∧ x_gg t nn sg 0 b (M.2.1 q 4).toInt W9 P9 a = x_gg t nn sg 1 b (M1.2.1 q 4).toInt W9 P2 (M1.2.1 1 9).toInt)) → ((r.toInt = 0 → x_gg t nn sg 0 b (M.2.1 q 4).toInt W9 P9 a = Sum.inl ((M1.2.1 1 10).toInt, (M1.2.1 1 11).toInt))) → Q (some (.int r)) M1) : mm_T X d 60 0 [.ref q, .ref 1, .ref p, .int o, .null, .null, .null] [] M Q := by
  have F0 : FR (md_qq q) M M := FR.rf
  have b_191 := g_b hG (a := q) (i := 4) (lo := 0) (hi := 40) (by rcases hq with rfl | rfl <;> rfl) (by rcases hq with rfl | rfl <;> rfl)
  have z_192 := x_wc_b W9
  refine to_c (pc := 0) rw_60_0 (x := (0 : Int32)) rfl rfl (to_is (pc := 1) rw_60_1 (ls2 := [.ref q, .ref 1, .ref p, .int o, .int (0 : Int32), .null, .null]) rfl rfl ?_)
  have k_193 : (0 : Int32).toInt = 0 := rfl
  exact (U_60_1 (q := q) (p := p) (o := o) (t := t) (nn := nn) (a := a) (sg := sg) (b := b) (W9 := W9) (P9 := P9) hX hd hq hp q1 q2 q3 q4 q5 q6 q7 q8 hr h ((41 - (0 : Int32).toInt).toNat + 1)) M (0 : Int32) (.null) (.null) hG F0 (by omega) (by omega) (by omega) (by omega) q4 q6 (by omega) q7 (by omega) (g_v rfl rfl rfl (x_2s_0 (by omega)).symm (by omega)) (by omega)
