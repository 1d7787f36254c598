set_option maxRecDepth 4000 in
set_option maxHeartbeats 0 in
theorem U_60_0 {X : mm_X} {d : Nat} {M : mm_M} {Q : Option Value → mm_M → Prop} {q : Nat} {p : Nat} {o : Int32} {t : Nat → Int} {nn : Int} {a : Int} {sg : x_S} {b : Int} {W9 : List Int} {P9 : x_GP} (hX : g_X X) (hd : 3 + 4 * (8 - o.toInt) ≤ (d : Int)) (hq : q = 67 ∨ q = 72) (hp : p = 49 ∨ p = 58) (q1 : 0 ≤ o.toInt) (q2 : o.toInt ≤ 8) (q3 : o.toInt = b) (q4 : CS M t nn) (q5 : (M.2.1 1 9).toInt = a) (q6 : PLs M p sg) (q7 : LQc M q P9) (q8 : (M.2.1 q 4).toInt = P9.2 + x_wc W9) (hr : RE_58 (8 - o.toInt)) (h : ∀ (r : Int32) (M1 : mm_M), g_G M1 → FR (md_qq q) M M1 → (0 ≤ r.toInt) → (r.toInt ≤ 1) → CS M1 t nn → (r.toInt = 1 → (M.2.1 q 4).toInt < (M1.2.1 q 4).toInt) → ((r.toInt = 1 → ∃ P2 : x_GP, LQc M1 q P2 ∧ (M1.2.1 q 4).toInt = P2.2 + x_wc W9 ∧ x_gg t nn sg 0 b (M.2.1 q 4).toInt W9 P9 a = x_gg t nn sg 1 b (M1.2.1 q 4).toInt W9 P2 (M1.2.1 1 9).toInt)) → ((r.toInt = 0 → x_gg t nn sg 0 b (M.2.1 q 4).toInt W9 P9 a = Sum.inl ((M1.2.1 1 10).toInt, (M1.2.1 1 11).toInt))) → Q (some (.int r)) M1) : ∀ nn9 : Nat, (∀ (N : mm_M) (u1 : Value) (u2 : Value) (u3 : Value) (x4 : Int32) (x5 : Int32) (x6 : Int32), g_G N → FR (md_qq q) M N → (0 ≤ x6.toInt) → (x6.toInt ≤ 41) → (0 ≤ x4.toInt) → (x4.toInt ≤ 41) → (0 ≤ x5.toInt) → (x5.toInt ≤ 1) → (CS N t nn) → (PLs N p sg) → ((x5.toInt = 1 → (M.2.1 q 4).toInt < (N.2.1 q 4).toInt)) → ((x5.toInt = 1 → ∃ P2 : x_GP, LQc N q P2 ∧ (N.2.1 q 4).toInt = P2.2 + (x4.toInt - x6.toInt) + x_wc W9 ∧ x6.toInt ≤ x4.toInt ∧ x_gg t nn sg 0 b (M.2.1 q 4).toInt W9 P9 a = x_gg t nn sg 1 b (N.2.1 q 4).toInt (x_2s (x4.toInt - x6.toInt).toNat W9) P2 (N.2.1 1 9).toInt)) → ((x5.toInt = 0 → x_gg t nn sg 0 b (M.2.1 q 4).toInt W9 P9 a = Sum.inl ((N.2.1 1 10).toInt, (N.2.1 1 11).toInt))) → 41 - x6.toInt < (nn9 : Int) → mm_T X d 60 65 [.ref q, u1, u2, u3, .int x4, .int x5, .int x6] [] N Q) := by
  intro nn9
  induction nn9 with
  | zero =>
    intro N u1 u2 u3 x4 x5 x6 hG F0 g1 g2 g3 g4 g5 g6 g7 g8 g9 g10 g11 hm
    exfalso; omega
  | succ nn9 ih =>
    intro N u1 u2 u3 x4 x5 x6 hG F0 g1 g2 g3 g4 g5 g6 g7 g8 g9 g10 g11 hm
    have b_1 := g_b hG (a := q) (i := 4) (lo := 0) (hi := 40) (by rcases hq with rfl | rfl <;> rfl) (by rcases hq with rfl | rfl <;> rfl)
    have z_2 := x_wc_b W9
    have c_3 := CS_u g7 (a := (N.2.1 1 9).toInt) (by (first | (clear g9 g10 g11; omega) | omega))
    unfold x_C at c_3
    have z_4 := x_kx_q (x_val t nn (N.2.1 1 9).toInt)
    refine to_i (pc := 65) rw_60_65 rfl (to_i (pc := 67) rw_60_67 rfl (b_cge (pc := 69) rw_60_69 (A := x6.toInt) (B := x4.toInt) rfl rfl (fun h5 => ?_) (fun h5 => ?_)))
    · refine to_i (pc := 90) rw_60_90 rfl (s_r1 (pc := 92) rw_60_92 (A := x5.toInt) rfl (by (first | (clear g9 g10 g11; omega) | omega)) ?_)
      exact h x5 N hG F0 (by (first | (clear g9 g10 g11; omega) | omega)) (by (first | (clear g9 g10 g11; omega) | omega)) g7 (by (first | (clear g9 g10 g11; omega) | omega)) (fun z => by obtain ⟨P2, a1, a2, a3, a4⟩ := g10 (by (first | (clear g9 g10 g11; omega) | omega)); exact ⟨P2, a1, by (first | (clear g9 g10 g11; omega) | omega), a4.trans (g_v rfl rfl (by (first | (clear g9 g10 g11; omega) | omega)) (x_2s_0 (by (first | (clear g9 g10 g11; omega) | omega))) (by (first | (clear g9 g10 g11; omega) | omega)))⟩) (fun z => ginl (by (first | (clear g9 g10 g11; omega) | omega)) (by (first | (clear g9 g10 g11; omega) | omega)) (g11 (by (first | (clear g9 g10 g11; omega) | omega))))
    · refine to_i (pc := 72) rw_60_72 rfl (b_ieq (pc := 74) rw_60_74 (A := x5.toInt) rfl (fun h6 => ?_) (fun h6 => ?_))
      · refine to_i (pc := 90) rw_60_90 rfl (s_r1 (pc := 92) rw_60_92 (A := x5.toInt) rfl (by (first | (clear g9 g10 g11; omega) | omega)) ?_)
        exact h x5 N hG F0 (by (first | (clear g9 g10 g11; omega) | omega)) (by (first | (clear g9 g10 g11; omega) | omega)) g7 (by (first | (clear g9 g10 g11; omega) | omega)) (fun z => by obtain ⟨P2, a1, a2, a3, a4⟩ := g10 (by (first | (clear g9 g10 g11; omega) | omega)); exact ⟨P2, a1, by (first | (clear g9 g10 g11; omega) | omega), a4.trans (g_v rfl rfl (by (first | (clear g9 g10 g11; omega) | omega)) (x_2s_0 (by (first | (clear g9 g10 g11; omega) | omega))) (by (first | (clear g9 g10 g11; omega) | omega)))⟩) (fun z => ginl (by (first | (clear g9 g10 g11; omega) | omega)) (by (first | (clear g9 g10 g11; omega) | omega)) (g11 (by (first | (clear g9 g10 g11; omega) | omega))))
      · refine to_an (pc := 77) rw_60_77 rfl (to_c (pc := 78) rw_60_78 (x := (2 : Int32)) rfl rfl (to_c (pc := 79) rw_60_79 (x := (0 : Int32)) rfl rfl (to_c (pc := 80) rw_60_80 (x := (0 : Int32)) rfl rfl (s_v (pc := 81) rw_60_81 (by (first | (clear g9 g10 g11 h6; omega) | (clear g9 g10 g11; omega) | omega)) (ls0 := [.ref q, .int (2 : Int32), .int (0 : Int32), .int (0 : Int32)]) rfl (Nat.le_of_ble_eq_true rfl) (Nat.le_of_ble_eq_true rfl) rfl (to_rc rfl rfl rfl (g_o hG (by rcases hq with rfl | rfl <;> rfl))) rfl ?_))))
        have k_7 : (2 : Int32).toInt = 2 := rfl
        have k_8 : (0 : Int32).toInt = 0 := rfl
        obtain ⟨Pm, m1, m2, m3, m4⟩ := g10 (by (first | (clear g9 g10 g11 h6; omega) | (clear g9 g10 g11; omega) | omega))
        have z_9 := m1.1
        refine E_64 hX (by (first | (clear g9 g10 g11 h6; omega) | (clear g9 g10 g11; omega) | omega)) hG hq (by (first | (clear g9 g10 g11 h6; omega) | (clear g9 g10 g11; omega) | omega)) (by (first | (clear g9 g10 g11 h6; omega) | (clear g9 g10 g11; omega) | omega)) (by (first | (clear g9 g10 g11 h6; omega) | (clear g9 g10 g11; omega) | omega)) (by (first | (clear g9 g10 g11 h6; omega) | (clear g9 g10 g11; omega) | omega)) m1 (by (first | (clear g9 g10 g11 h6; omega) | (clear g9 g10 g11; omega) | omega)) (q := q) (k := (2 : Int32)) (f := (0 : Int32)) (s := (0 : Int32)) (P9 := Pm) (fun M13 hG11 F10 p_12 => ?_)
        have F14 := FR.c F0 F10 (fun a i z => show a = 1 ∧ 5 ≤ i ∨ 3 ≤ a ∧ a ≤ 5 ∨ q ≤ a ∧ a ≤ q + 4 by have z : a = q ∧ i = 5 ∨ q + 1 ≤ a ∧ a ≤ q + 3 := z; omega)
        have z_15 := LQc_v (k2 := 2) (f2 := 0) (s2 := 0) rfl rfl rfl p_12
        have z_16 := x_kn1_2 (P := Pm) (k := 2) (a := 0) (b := 0)
        refine s_inc (pc := 84) rw_60_84 (ls2 := fun v => [.ref q, u1, u2, u3, .int x4, .int x5, .int v]) rfl rfl (fun _ => rfl) (A := x6.toInt) (B := 1) rfl rfl (by (first | (clear g9 g10 g11 h6; omega) | (clear g9 g10 g11; omega) | omega)) (fun v17 e18 => to_go (pc := 87) rw_60_87 ?_)
        have j_19 := (CS_f (fun a i z => F_n F10 (show ¬ (a = q ∧ i = 5 ∨ q + 1 ≤ a ∧ a ≤ q + 3) by (first | (clear g9 g10 g11 h6; omega) | (clear g9 g10 g11; omega) | omega)) rfl) g7)
        have j_20 := (PLs_f (fun a i z => F_n F10 (show ¬ (a = q ∧ i = 5 ∨ q + 1 ≤ a ∧ a ≤ q + 3) by (first | (clear g9 g10 g11 h6; omega) | (clear g9 g10 g11; omega) | omega)) rfl) g8)
        have c_21 : M13.2.1 q 4 = (N.2.1 q 4) := (F_n F10 (show ¬ (q = q ∧ 4 = 5 ∨ q + 1 ≤ q ∧ q ≤ q + 3) by (first | (clear g9 g10 g11 h6; omega) | (clear g9 g10 g11; omega) | omega)) rfl)
        have t_22 : (M13.2.1 q 4).toInt = (N.2.1 q 4).toInt := congrArg Int32.toInt c_21
        have c_23 : M13.2.1 1 9 = (N.2.1 1 9) := (F_n F10 (show ¬ (1 = q ∧ 9 = 5 ∨ q + 1 ≤ 1 ∧ 1 ≤ q + 3) by (first | (clear g9 g10 g11 h6; omega) | (clear g9 g10 g11; omega) | omega)) rfl)
        have t_24 : (M13.2.1 1 9).toInt = (N.2.1 1 9).toInt := congrArg Int32.toInt c_23
        have c_25 : M13.2.1 1 10 = (N.2.1 1 10) := (F_n F10 (show ¬ (1 = q ∧ 10 = 5 ∨ q + 1 ≤ 1 ∧ 1 ≤ q + 3) by (first | (clear g9 g10 g11 h6; omega) | (clear g9 g10 g11; omega) | omega)) rfl)
        have t_26 : (M13.2.1 1 10).toInt = (N.2.1 1 10).toInt := congrArg Int32.toInt c_25
        have c_27 : M13.2.1 1 11 = (N.2.1 1 11) := (F_n F10 (show ¬ (1 = q ∧ 11 = 5 ∨ q + 1 ≤ 1 ∧ 1 ≤ q + 3) by (first | (clear g9 g10 g11 h6; omega) | (clear g9 g10 g11; omega) | omega)) rfl)
        have t_28 : (M13.2.1 1 11).toInt = (N.2.1 1 11).toInt := congrArg Int32.toInt c_27
        exact ih M13 (u1) (u2) (u3) x4 x5 v17 hG11 F14 (by (first | (clear g9 g10 g11 h6; omega) | (clear g9 g10 g11; omega) | omega)) (by (first | (clear g9 g10 g11 h6; omega) | (clear g9 g10 g11; omega) | omega)) (by (first | (clear g9 g10 g11 h6; omega) | (clear g9 g10 g11; omega) | omega)) (by (first | (clear g9 g10 g11 h6; omega) | (clear g9 g10 g11; omega) | omega)) (by (first | (clear g9 g10 g11 h6; omega) | (clear g9 g10 g11; omega) | omega)) (by (first | (clear g9 g10 g11 h6; omega) | (clear g9 g10 g11; omega) | omega)) j_19 j_20 (fun z => by have z9 := g9 z; omega) (fun z => ⟨x_kn1 Pm 2 0 0, z_15, (by (first | (clear g9 g10 g11 h6; omega) | (clear g9 g10 g11; omega) | omega)), (by (first | (clear g9 g10 g11 h6; omega) | (clear g9 g10 g11; omega) | omega)), m4.trans ((g_v rfl rfl rfl (x_2s_s (n := x4.toInt - v17.toInt) (by (first | (clear g9 g10 g11 h6; omega) | (clear g9 g10 g11; omega) | omega)) (by (first | (clear g9 g10 g11 h6; omega) | (clear g9 g10 g11; omega) | omega))).symm rfl).trans ((g_b2 (by (first | (clear g9 g10 g11 h6; omega) | (clear g9 g10 g11; omega) | omega)) (by (first | (clear g9 g10 g11 h6; omega) | (clear g9 g10 g11; omega) | omega)) (Or.inl rfl)).trans (g_v rfl rfl (by (first | (clear g9 g10 g11 h6; omega) | (clear g9 g10 g11; omega) | omega)) rfl (by (first | (clear g9 g10 g11 h6; omega) | (clear g9 g10 g11; omega) | omega)))))⟩) (fun z => ginl (by (first | (clear g9 g10 g11 h6; omega) | (clear g9 g10 g11; omega) | omega)) (by (first | (clear g9 g10 g11 h6; omega) | (clear g9 g10 g11; omega) | omega)) (g11 (by (first | (clear g9 g10 g11 h6; omega) | (clear g9 g10 g11; omega) | omega)))) (by (first | (clear g9 g10 g11 h6; omega) | (clear g9 g10 g11; omega) | omega))
set_option maxRecDepth 4000 in
set_option maxHeartbeats 0 in
theorem U_60_1 {X : mm_X} {d : Nat} {M : mm_M} {Q : Option Value → mm_M → Prop} {q : Nat} {p : Nat} {o : Int32} {t : Nat → Int} {nn : Int} {a : Int} {sg : x_S} {b : Int} {W9 : List Int} {P9 : x_GP} (hX : g_X X) (hd : 3 + 4 * (8 - o.toInt) ≤ (d : Int)) (hq : q = 67 ∨ q = 72) (hp : p = 49 ∨ p = 58) (q1 : 0 ≤ o.toInt) (q2 : o.toInt ≤ 8) (q3 : o.toInt = b) (q4 : CS M t nn) (q5 : (M.2.1 1 9).toInt = a) (q6 : PLs M p sg) (q7 : LQc M q P9) (q8 : (M.2.1 q 4).toInt = P9.2 + x_wc W9) (hr : RE_58 (8 - o.toInt)) (h : ∀ (r : Int32) (M1 : mm_M), g_G M1 → FR (md_qq q) M M1 → (0 ≤ r.toInt) → (r.toInt ≤ 1) → CS M1 t nn → (r.toInt = 1 → (M.2.1 q 4).toInt < (M1.2.1 q 4).toInt) → ((r.toInt = 1 → ∃ P2 : x_GP, LQc M1 q P2 ∧ (M1.2.1 q 4).toInt = P2.2 + x_wc W9 ∧ x_gg t nn sg 0 b (M.2.1 q 4).toInt W9 P9 a = x_gg t nn sg 1 b (M1.2.1 q 4).toInt W9 P2 (M1.2.1 1 9).toInt)) → ((r.toInt = 0 → x_gg t nn sg 0 b (M.2.1 q 4).toInt W9 P9 a = Sum.inl ((M1.2.1 1 10).toInt, (M1.2.1 1 11).toInt))) → Q (some (.int r)) M1) : ∀ nn9 : Nat, (∀ (N : mm_M) (x4 : Int32) (u5 : Value) (u6 : Value), g_G N → FR (md_qq q) M N → (0 ≤ x4.toInt) → (x4.toInt ≤ 41) → (x4.toInt ≤ (N.2.1 q 4).toInt) → (o.toInt = o.toInt) → (CS N t nn) → (PLs N p sg) → ((M.2.1 q 4).toInt ≤ (N.2.1 q 4).toInt) → (LQc N q P9) → ((N.2.1 q 4).toInt = P9.2 + x4.toInt + x_wc W9) → (x_gg t nn sg 0 b (M.2.1 q 4).toInt W9 P9 a = x_gg t nn sg 0 b (N.2.1 q 4).toInt (x_2s (x4.toInt).toNat W9) P9 (N.2.1 1 9).toInt) → 41 - x4.toInt < (nn9 : Int) → mm_T X d 60 3 [.ref q, .ref 1, .ref p, .int o, .int x4, u5, u6] [] N Q) := by
  intro nn9
  induction nn9 with
  | zero =>
    intro N x4 u5 u6 hG F0 g1 g2 g3 g4 g5 g6 g7 g8 g9 g10 hm
    have b_29 := g_b hG (a := q) (i := 4) (lo := 0) (hi := 40) (by rcases hq with rfl | rfl <;> rfl) (by rcases hq with rfl | rfl <;> rfl)
    exfalso; omega
  | succ nn9 ih =>
    intro N x4 u5 u6 hG F0 g1 g2 g3 g4 g5 g6 g7 g8 g9 g10 hm
    have b_30 := g_b hG (a := q) (i := 4) (lo := 0) (hi := 40) (by rcases hq with rfl | rfl <;> rfl) (by rcases hq with rfl | rfl <;> rfl)
    have z_31 := x_wc_b W9
    have z_32 := g8.1
    have c_33 := CS_u g5 (a := (N.2.1 1 9).toInt) (by omega)
    unfold x_C at c_33
    have z_34 := x_kx_q (x_val t nn (N.2.1 1 9).toInt)
    have z_35 := x_wc_2i (n := x4.toInt) (W := W9) (by omega)
    have z_36 := x_wc_b (x_2s (x4.toInt).toNat W9)
    refine to_i (pc := 3) rw_60_3 rfl (to_c (pc := 5) rw_60_5 (x := (40 : Int32)) rfl rfl (b_cgt (pc := 7) rw_60_7 (A := x4.toInt) (B := 40) rfl rfl (fun h37 => ?_) (fun h37 => ?_)))
    · refine to_an (pc := 35) rw_60_35 rfl (tt_gI (pc := 36) rw_60_36 (g_o hG rfl) (v := (N.2.1 1 7)) rfl (to_c (pc := 39) rw_60_39 (x := (40 : Int32)) rfl rfl (b_cne (pc := 41) rw_60_41 (A := (N.2.1 1 7).toInt) (B := 40) rfl rfl (fun h38 => ?_) (fun h38 => ?_))))
      · refine to_an (pc := 54) rw_60_54 rfl (to_an (pc := 55) rw_60_55 rfl (to_an (pc := 56) rw_60_56 rfl (s_v (pc := 57) rw_60_57 (by (first | (clear h38; omega) | omega)) (ls0 := [.ref q, .ref 1, .ref p, .null, .null, .null, .null]) rfl (Nat.le_of_ble_eq_true rfl) (Nat.le_of_ble_eq_true rfl) rfl (to_rc rfl rfl rfl (g_o hG (by rcases hq with rfl | rfl <;> rfl))) rfl (E_62 hX (by (first | (clear h38; omega) | omega)) hG hq hp g5 (by (first | (clear h38; omega) | omega)) g6 g8 (by (first | (clear h38; omega) | omega)) (by (first | (clear h38; omega) | omega)) (by (first | (clear h38; omega) | omega)) (q := q) (p := p) (t := t) (nn := nn) (a := (N.2.1 1 9).toInt) (sg := sg) (b := b) (W9 := (x_2s (x4.toInt).toNat W9)) (P9 := P9) (fun r39 M48 hG41 F40 p_42 p_43 p_44 p_45 p_46 p_47 => ?_)))))
        have F49 := FR.c F0 F40 (fun a i z => show a = 1 ∧ 5 ≤ i ∨ 3 ≤ a ∧ a ≤ 5 ∨ q ≤ a ∧ a ≤ q + 4 by have z : a = 1 ∧ 5 ≤ i ∨ 3 ≤ a ∧ a ≤ 5 ∨ q ≤ a ∧ a ≤ q + 4 := z; omega)
        have b_50 := g_b hG41 (a := q) (i := 4) (lo := 0) (hi := 40) (by rcases hq with rfl | rfl <;> rfl) (by rcases hq with rfl | rfl <;> rfl)
        rcases (show r39.toInt = 0 ∨ r39.toInt = 1 by (first | (clear h38; omega) | omega)) with h51 | h51
        · skip
          have p_52 := p_47 (by (first | (clear h38; omega) | omega))
          clear p_45 p_46 p_47
          have z_53 := g10.trans p_52
          refine to_is (pc := 60) rw_60_60 (ls2 := [.ref q, .ref 1, .ref p, .int o, .int x4, .int r39, u6]) rfl rfl (to_c (pc := 62) rw_60_62 (x := (0 : Int32)) rfl rfl (to_is (pc := 63) rw_60_63 (ls2 := [.ref q, .ref 1, .ref p, .int o, .int x4, .int r39, .int (0 : Int32)]) rfl rfl ?_))
          have k_54 : (0 : Int32).toInt = 0 := rfl
          have j_55 := (PLs_f (fun a i z => F_n F40 (show ¬ (a = 1 ∧ 5 ≤ i ∨ 3 ≤ a ∧ a ≤ 5 ∨ q ≤ a ∧ a ≤ q + 4) by (first | (clear h38; omega) | omega)) rfl) g6)
          exact (U_60_0 (q := q) (p := p) (o := o) (t := t) (nn := nn) (a := a) (sg := sg) (b := b) (W9 := W9) (P9 := P9) hX hd hq hp q1 q2 q3 q4 q5 q6 q7 q8 hr h ((41 - (0 : Int32).toInt).toNat + 1)) M48 (.ref 1) (.ref p) (.int o) x4 r39 (0 : Int32) hG41 F49 (by (first | (clear h38; omega) | omega)) (by (first | (clear h38; omega) | omega)) (by (first | (clear h38; omega) | omega)) (by (first | (clear h38; omega) | omega)) (by (first | (clear h38; omega) | omega)) (by (first | (clear h38; omega) | omega)) p_44 j_55 (fun z => by (first | (clear h38; omega) | omega)) (fun z => by exfalso; omega) (fun _ => ginl (by (first | (clear h38; omega) | omega)) (by (first | (clear h38; omega) | omega)) z_53) (by (first | (clear h38; omega) | omega))
        · skip
          have p_56 := p_45 (by (first | (clear h38; omega) | omega))
          have p_57 := p_46 (by (first | (clear h38; omega) | omega))
          clear p_45 p_46 p_47
          obtain ⟨P58, P58a, P58b, P58c⟩ := p_57
          have z_59 := P58a.1
          have z_60 := g10.trans P58c
          refine to_is (pc := 60) rw_60_60 (ls2 := [.ref q, .ref 1, .ref p, .int o, .int x4, .int r39, u6]) rfl rfl (to_c (pc := 62) rw_60_62 (x := (0 : Int32)) rfl rfl (to_is (pc := 63) rw_60_63 (ls2 := [.ref q, .ref 1, .ref p, .int o, .int x4, .int r39, .int (0 : Int32)]) rfl rfl ?_))
          have k_61 : (0 : Int32).toInt = 0 := rfl
          have j_62 := (PLs_f (fun a i z => F_n F40 (show ¬ (a = 1 ∧ 5 ≤ i ∨ 3 ≤ a ∧ a ≤ 5 ∨ q ≤ a ∧ a ≤ q + 4) by (first | (clear h38; omega) | omega)) rfl) g6)
          exact (U_60_0 (q := q) (p := p) (o := o) (t := t) (nn := nn) (a := a) (sg := sg) (b := b) (W9 := W9) (P9 := P9) hX hd hq hp q1 q2 q3 q4 q5 q6 q7 q8 hr h ((41 - (0 : Int32).toInt).toNat + 1)) M48 (.ref 1) (.ref p) (.int o) x4 r39 (0 : Int32) hG41 F49 (by (first | (clear h38; omega) | omega)) (by (first | (clear h38; omega) | omega)) (by (first | (clear h38; omega) | omega)) (by (first | (clear h38; omega) | omega)) (by (first | (clear h38; omega) | omega)) (by (first | (clear h38; omega) | omega)) p_44 j_62 (fun z => by (first | (clear h38; omega) | omega)) (fun _ => ⟨P58, P58a, (by (first | (clear h38; omega) | omega)), (by (first | (clear h38; omega) | omega)), z_60.trans (g_v rfl rfl (by (first | (clear h38; omega) | omega)) (by rw [show x4.toInt - (0 : Int32).toInt = x4.toInt by (first | (clear h38; omega) | omega)]) (by (first | (clear h38; omega) | omega)))⟩) (fun z => by exfalso; omega) (by (first | (clear h38; omega) | omega))
      · refine to_an (pc := 44) rw_60_44 rfl (to_an (pc := 45) rw_60_45 rfl (to_an (pc := 46) rw_60_46 rfl (to_in (pc := 47) rw_60_47 rfl (s_v (pc := 48) rw_60_48 (by omega) (ls0 := [.ref q, .ref 1, .ref p, .int o]) rfl (Nat.le_of_ble_eq_true rfl) (Nat.le_of_ble_eq_true rfl) rfl (to_rc rfl rfl rfl (g_o hG (by rcases hq with rfl | rfl <;> rfl))) rfl (E_61 hX (by omega) hG hq hp (by omega) (by omega) (by omega) g5 (by omega) g6 g8 (by omega) (by omega) hr (q := q) (p := p) (o := o) (t := t) (nn := nn) (a := (N.2.1 1 9).toInt) (sg := sg) (b := b) (W9 := (x_2s (x4.toInt).toNat W9)) (P9 := P9) (fun r63 M72 hG65 F64 p_66 p_67 p_68 p_69 p_70 p_71 => ?_))))))
        have F73 := FR.c F0 F64 (fun a i z => show a = 1 ∧ 5 ≤ i ∨ 3 ≤ a ∧ a ≤ 5 ∨ q ≤ a ∧ a ≤ q + 4 by have z : a = 1 ∧ 5 ≤ i ∨ 3 ≤ a ∧ a ≤ 5 ∨ q ≤ a ∧ a ≤ q + 4 := z; omega)
        have b_74 := g_b hG65 (a := q) (i := 4) (lo := 0) (hi := 40) (by rcases hq with rfl | rfl <;> rfl) (by rcases hq with rfl | rfl <;> rfl)
        rcases (show r63.toInt = 0 ∨ r63.toInt = 1 by omega) with h75 | h75
        · skip
          have p_76 := p_71 (by omega)
          clear p_69 p_70 p_71
          have z_77 := g10.trans p_76
          refine to_go (pc := 51) rw_60_51 (to_is (pc := 60) rw_60_60 (ls2 := [.ref q, .ref 1, .ref p, .int o, .int x4, .int r63, u6]) rfl rfl (to_c (pc := 62) rw_60_62 (x := (0 : Int32)) rfl rfl (to_is (pc := 63) rw_60_63 (ls2 := [.ref q, .ref 1, .ref p, .int o, .int x4, .int r63, .int (0 : Int32)]) rfl rfl ?_)))
          have k_78 : (0 : Int32).toInt = 0 := rfl
          have j_79 := (PLs_f (fun a i z => F_n F64 (show ¬ (a = 1 ∧ 5 ≤ i ∨ 3 ≤ a ∧ a ≤ 5 ∨ q ≤ a ∧ a ≤ q + 4) by omega) rfl) g6)
          exact (U_60_0 (q := q) (p := p) (o := o) (t := t) (nn := nn) (a := a) (sg := sg) (b := b) (W9 := W9) (P9 := P9) hX hd hq hp q1 q2 q3 q4 q5 q6 q7 q8 hr h ((41 - (0 : Int32).toInt).toNat + 1)) M72 (.ref 1) (.ref p) (.int o) x4 r63 (0 : Int32) hG65 F73 (by omega) (by omega) (by omega) (by omega) (by omega) (by omega) p_68 j_79 (fun z => by omega) (fun z => by exfalso; omega) (fun _ => ginl (by omega) (by omega) z_77) (by omega)
        · skip
          have p_80 := p_69 (by omega)
          have p_81 := p_70 (by omega)
          clear p_69 p_70 p_71
          obtain ⟨P82, P82a, P82b, P82c⟩ := p_81
          have z_83 := P82a.1
          have z_84 := g10.trans P82c
          refine to_go (pc := 51) rw_60_51 (to_is (pc := 60) rw_60_60 (ls2 := [.ref q, .ref 1, .ref p, .int o, .int x4, .int r63, u6]) rfl rfl (to_c (pc := 62) rw_60_62 (x := (0 : Int32)) rfl rfl (to_is (pc := 63) rw_60_63 (ls2 := [.ref q, .ref 1, .ref p, .int o, .int x4, .int r63, .int (0 : Int32)]) rfl rfl ?_)))
          have k_85 : (0 : Int32).toInt = 0 := rfl
          have j_86 := (PLs_f (fun a i z => F_n F64 (show ¬ (a = 1 ∧ 5 ≤ i ∨ 3 ≤ a ∧ a ≤ 5 ∨ q ≤ a ∧ a ≤ q + 4) by omega) rfl) g6)
          exact (U_60_0 (q := q) (p := p) (o := o) (t := t) (nn := nn) (a := a) (sg := sg) (b := b) (W9 := W9) (P9 := P9) hX hd hq hp q1 q2 q3 q4 q5 q6 q7 q8 hr h ((41 - (0 : Int32).toInt).toNat + 1)) M72 (.ref 1) (.ref p) (.int o) x4 r63 (0 : Int32) hG65 F73 (by omega) (by omega) (by omega) (by omega) (by omega) (by omega) p_68 j_86 (fun z => by omega) (fun _ => ⟨P82, P82a, (by omega), (by omega), z_84.trans (g_v rfl rfl (by omega) (by rw [show x4.toInt - (0 : Int32).toInt = x4.toInt by omega]) (by omega))⟩) (fun z => by exfalso; omega) (by omega)
    · refine to_an (pc := 10) rw_60_10 rfl (to_c (pc := 11) rw_60_11 (x := (486146048 : Int32)) rfl rfl (s_v (pc := 13) rw_60_13 (by omega) (ls0 := [.ref 1, .int (486146048 : Int32)]) rfl (Nat.le_of_ble_eq_true rfl) (Nat.le_of_ble_eq_true rfl) rfl (to_rc rfl rfl rfl (g_o hG rfl)) rfl ?_))
      have k_87 : (486146048 : Int32).toInt = 486146048 := rfl
      refine E_86 hX (by omega) hG g5 (by omega) (x := (486146048 : Int32)) (t := t) (nn := nn) (a := (N.2.1 1 9).toInt) (fun r88 M95 hG90 F89 p_91 p_92 p_93 p_94 => ?_)
      have F96 := FR.c F0 F89 (fun a i z => show a = 1 ∧ 5 ≤ i ∨ 3 ≤ a ∧ a ≤ 5 ∨ q ≤ a ∧ a ≤ q + 4 by have z : a < 0 := z; omega)
      rcases (show r88.toInt = 0 ∨ r88.toInt = 1 by (first | (clear p_93 p_94; omega) | omega)) with h97 | h97
      · skip
        have p_98 := p_94 (by (first | (clear p_93 p_94; omega) | omega))
        clear p_93 p_94
        refine b_ieq_t (pc := 16) rw_60_16 (A := r88.toInt) rfl (by (first | (clear p_93 p_94; omega) | omega)) (to_an (pc := 35) rw_60_35 rfl ?_)
        have c_99 : M95.2.1 1 7 = (N.2.1 1 7) := (F_n F89 (show ¬ (1 < 0) by decide) rfl)
        refine tt_gI (pc := 36) rw_60_36 (g_o hG90 rfl) (v := (N.2.1 1 7)) c_99 (to_c (pc := 39) rw_60_39 (x := (40 : Int32)) rfl rfl (b_cne (pc := 41) rw_60_41 (A := (N.2.1 1 7).toInt) (B := 40) rfl rfl (fun h100 => ?_) (fun h100 => ?_)))
        · refine to_an (pc := 54) rw_60_54 rfl (to_an (pc := 55) rw_60_55 rfl (to_an (pc := 56) rw_60_56 rfl (s_v (pc := 57) rw_60_57 (by (first | (clear p_93 p_94 h100; omega) | (clear p_93 p_94; omega) | omega)) (ls0 := [.ref q, .ref 1, .ref p, .null, .null, .null, .null]) rfl (Nat.le_of_ble_eq_true rfl) (Nat.le_of_ble_eq_true rfl) rfl (to_rc rfl rfl rfl (g_o hG90 (by rcases hq with rfl | rfl <;> rfl))) rfl ?_)))
          have c_101 : M95.2.1 q 4 = (N.2.1 q 4) := (F_n F89 (show ¬ (q < 0) by (first | (clear p_93 p_94 h100; omega) | (clear p_93 p_94; omega) | omega)) rfl)
          have t_102 : (M95.2.1 q 4).toInt = (N.2.1 q 4).toInt := congrArg Int32.toInt c_101
          have j_103 := (CS_f (tg_28 F89) g5)
          have c_104 : M95.2.1 1 9 = (N.2.1 1 9) := (F_n F89 (show ¬ (1 < 0) by decide) rfl)
          have t_105 : (M95.2.1 1 9).toInt = (N.2.1 1 9).toInt := congrArg Int32.toInt c_104
          have j_106 := (PLs_f (fun a i z => F_n F89 (show ¬ (a < 0) by (first | (clear p_93 p_94 h100; omega) | (clear p_93 p_94; omega) | omega)) rfl) g6)
          have z_107 := LQc_f (fun a i z => (F_n F89 (show ¬ (a < 0) by (first | (clear p_93 p_94 h100; omega) | (clear p_93 p_94; omega) | omega)) rfl)) g8
          refine E_62 hX (by (first | (clear p_93 p_94 h100; omega) | (clear p_93 p_94; omega) | omega)) hG90 hq hp j_103 (by (first | (clear p_93 p_94 h100; omega) | (clear p_93 p_94; omega) | omega)) j_106 z_107 (by (first | (clear p_93 p_94 h100; omega) | (clear p_93 p_94; omega) | omega)) (by (first | (clear p_93 p_94 h100; omega) | (clear p_93 p_94; omega) | omega)) (by (first | (clear p_93 p_94 h100; omega) | (clear p_93 p_94; omega) | omega)) (q := q) (p := p) (t := t) (nn := nn) (a := (N.2.1 1 9).toInt) (sg := sg) (b := b) (W9 := (x_2s (x4.toInt).toNat W9)) (P9 := P9) (fun r108 M117 hG110 F109 p_111 p_112 p_113 p_114 p_115 p_116 => ?_)
          have F118 := FR.c F96 F109 (fun a i z => show a = 1 ∧ 5 ≤ i ∨ 3 ≤ a ∧ a ≤ 5 ∨ q ≤ a ∧ a ≤ q + 4 by have z : a = 1 ∧ 5 ≤ i ∨ 3 ≤ a ∧ a ≤ 5 ∨ q ≤ a ∧ a ≤ q + 4 := z; omega)
          have b_119 := g_b hG110 (a := q) (i := 4) (lo := 0) (hi := 40) (by rcases hq with rfl | rfl <;> rfl) (by rcases hq with rfl | rfl <;> rfl)
          rcases (show r108.toInt = 0 ∨ r108.toInt = 1 by (first | (clear p_93 p_94 h100 p_114 p_115 p_116; omega) | (clear p_93 p_94 p_114 p_115 p_116; omega) | omega)) with h120 | h120
          · skip
            have p_121 := p_116 (by (first | (clear p_93 p_94 h100 p_114 p_115 p_116; omega) | (clear p_93 p_94 p_114 p_115 p_116; omega) | omega))
            clear p_114 p_115 p_116
            have z_122 := (g10.trans (g_v rfl rfl (show (N.2.1 q 4).toInt = (M95.2.1 q 4).toInt by (first | (clear p_93 p_94 h100 p_114 p_115 p_116; omega) | (clear p_93 p_94 p_114 p_115 p_116; omega) | omega)) rfl rfl)).trans p_121
            refine to_is (pc := 60) rw_60_60 (ls2 := [.ref q, .ref 1, .ref p, .int o, .int x4, .int r108, u6]) rfl rfl (to_c (pc := 62) rw_60_62 (x := (0 : Int32)) rfl rfl (to_is (pc := 63) rw_60_63 (ls2 := [.ref q, .ref 1, .ref p, .int o, .int x4, .int r108, .int (0 : Int32)]) rfl rfl ?_))
            have k_123 : (0 : Int32).toInt = 0 := rfl
            have j_124 := (PLs_f (fun a i z => F_n F109 (show ¬ (a = 1 ∧ 5 ≤ i ∨ 3 ≤ a ∧ a ≤ 5 ∨ q ≤ a ∧ a ≤ q + 4) by (first | (clear p_93 p_94 h100 p_114 p_115 p_116; omega) | (clear p_93 p_94 p_114 p_115 p_116; omega) | omega)) rfl) j_106)
            exact (U_60_0 (q := q) (p := p) (o := o) (t := t) (nn := nn) (a := a) (sg := sg) (b := b) (W9 := W9) (P9 := P9) hX hd hq hp q1 q2 q3 q4 q5 q6 q7 q8 hr h ((41 - (0 : Int32).toInt).toNat + 1)) M117 (.ref 1) (.ref p) (.int o) x4 r108 (0 : Int32) hG110 F118 (by (first | (clear p_93 p_94 h100 p_114 p_115 p_116; omega) | (clear p_93 p_94 p_114 p_115 p_116; omega) | omega)) (by (first | (clear p_93 p_94 h100 p_114 p_115 p_116; omega) | (clear p_93 p_94 p_114 p_115 p_116; omega) | omega)) (by (first | (clear p_93 p_94 h100 p_114 p_115 p_116; omega) | (clear p_93 p_94 p_114 p_115 p_116; omega) | omega)) (by (first | (clear p_93 p_94 h100 p_114 p_115 p_116; omega) | (clear p_93 p_94 p_114 p_115 p_116; omega) | omega)) (by (first | (clear p_93 p_94 h100 p_114 p_115 p_116; omega) | (clear p_93 p_94 p_114 p_115 p_116; omega) | omega)) (by (first | (clear p_93 p_94 h100 p_114 p_115 p_116; omega) | (clear p_93 p_94 p_114 p_115 p_116; omega) | omega)) p_113 j_124 (fun z => by (first | (clear p_93 p_94 h100 p_114 p_115 p_116; omega) | (clear p_93 p_94 p_114 p_115 p_116; omega) | omega)) (fun z => by exfalso; omega) (fun _ => ginl (by (first | (clear p_93 p_94 h100 p_114 p_115 p_116; omega) | (clear p_93 p_94 p_114 p_115 p_116; omega) | omega)) (by (first | (clear p_93 p_94 h100 p_114 p_115 p_116; omega) | (clear p_93 p_94 p_114 p_115 p_116; omega) | omega)) z_122) (by (first | (clear p_93 p_94 h100 p_114 p_115 p_116; omega) | (clear p_93 p_94 p_114 p_115 p_116; omega) | omega))
          · skip
            have p_125 := p_114 (by (first | (clear p_93 p_94 h100 p_114 p_115 p_116; omega) | (clear p_93 p_94 p_114 p_115 p_116; omega) | omega))
            have p_126 := p_115 (by (first | (clear p_93 p_94 h100 p_114 p_115 p_116; omega) | (clear p_93 p_94 p_114 p_115 p_116; omega) | omega))
            clear p_114 p_115 p_116
            obtain ⟨P127, P127a, P127b, P127c⟩ := p_126
            have z_128 := P127a.1
            have z_129 := (g10.trans (g_v rfl rfl (show (N.2.1 q 4).toInt = (M95.2.1 q 4).toInt by (first | (clear p_93 p_94 h100 p_114 p_115 p_116; omega) | (clear p_93 p_94 p_114 p_115 p_116; omega) | omega)) rfl rfl)).trans P127c
            refine to_is (pc := 60) rw_60_60 (ls2 := [.ref q, .ref 1, .ref p, .int o, .int x4, .int r108, u6]) rfl rfl (to_c (pc := 62) rw_60_62 (x := (0 : Int32)) rfl rfl (to_is (pc := 63) rw_60_63 (ls2 := [.ref q, .ref 1, .ref p, .int o, .int x4, .int r108, .int (0 : Int32)]) rfl rfl ?_))
            have k_130 : (0 : Int32).toInt = 0 := rfl
            have j_131 := (PLs_f (fun a i z => F_n F109 (show ¬ (a = 1 ∧ 5 ≤ i ∨ 3 ≤ a ∧ a ≤ 5 ∨ q ≤ a ∧ a ≤ q + 4) by (first | (clear p_93 p_94 h100 p_114 p_115 p_116; omega) | (clear p_93 p_94 p_114 p_115 p_116; omega) | omega)) rfl) j_106)
            exact (U_60_0 (q := q) (p := p) (o := o) (t := t) (nn := nn) (a := a) (sg := sg) (b := b) (W9 := W9) (P9 := P9) hX hd hq hp q1 q2 q3 q4 q5 q6 q7 q8 hr h ((41 - (0 : Int32).toInt).toNat + 1)) M117 (.ref 1) (.ref p) (.int o) x4 r108 (0 : Int32) hG110 F118 (by (first | (clear p_93 p_94 h100 p_114 p_115 p_116; omega) | (clear p_93 p_94 p_114 p_115 p_116; omega) | omega)) (by (first | (clear p_93 p_94 h100 p_114 p_115 p_116; omega) | (clear p_93 p_94 p_114 p_115 p_116; omega) | omega)) (by (first | (clear p_93 p_94 h100 p_114 p_115 p_116; omega) | (clear p_93 p_94 p_114 p_115 p_116; omega) | omega)) (by (first | (clear p_93 p_94 h100 p_114 p_115 p_116; omega) | (clear p_93 p_94 p_114 p_115 p_116; omega) | omega)) (by (first | (clear p_93 p_94 h100 p_114 p_115 p_116; omega) | (clear p_93 p_94 p_114 p_115 p_116; omega) | omega)) (by (first | (clear p_93 p_94 h100 p_114 p_115 p_116; omega) | (clear p_93 p_94 p_114 p_115 p_116; omega) | omega)) p_113 j_131 (fun z => by (first | (clear p_93 p_94 h100 p_114 p_115 p_116; omega) | (clear p_93 p_94 p_114 p_115 p_116; omega) | omega)) (fun _ => ⟨P127, P127a, (by (first | (clear p_93 p_94 h100 p_114 p_115 p_116; omega) | (clear p_93 p_94 p_114 p_115 p_116; omega) | omega)), (by (first | (clear p_93 p_94 h100 p_114 p_115 p_116; omega) | (clear p_93 p_94 p_114 p_115 p_116; omega) | omega)), z_129.trans (g_v rfl rfl (by (first | (clear p_93 p_94 h100 p_114 p_115 p_116; omega) | (clear p_93 p_94 p_114 p_115 p_116; omega) | omega)) (by rw [show x4.toInt - (0 : Int32).toInt = x4.toInt by (first | (clear p_93 p_94 h100 p_114 p_115 p_116; omega) | (clear p_93 p_94 p_114 p_115 p_116; omega) | omega)]) (by (first | (clear p_93 p_94 h100 p_114 p_115 p_116; omega) | (clear p_93 p_94 p_114 p_115 p_116; omega) | omega)))⟩) (fun z => by exfalso; omega) (by (first | (clear p_93 p_94 h100 p_114 p_115 p_116; omega) | (clear p_93 p_94 p_114 p_115 p_116; omega) | omega))
        · refine to_an (pc := 44) rw_60_44 rfl (to_an (pc := 45) rw_60_45 rfl (to_an (pc := 46) rw_60_46 rfl (to_in (pc := 47) rw_60_47 rfl (s_v (pc := 48) rw_60_48 (by (first | (clear p_93 p_94; omega) | omega)) (ls0 := [.ref q, .ref 1, .ref p, .int o]) rfl (Nat.le_of_ble_eq_true rfl) (Nat.le_of_ble_eq_true rfl) rfl (to_rc rfl rfl rfl (g_o hG90 (by rcases hq with rfl | rfl <;> rfl))) rfl ?_))))
          have c_132 : M95.2.1 q 4 = (N.2.1 q 4) := (F_n F89 (show ¬ (q < 0) by (first | (clear p_93 p_94; omega) | omega)) rfl)
          have t_133 : (M95.2.1 q 4).toInt = (N.2.1 q 4).toInt := congrArg Int32.toInt c_132
          have j_134 := (CS_f (tg_28 F89) g5)
          have c_135 : M95.2.1 1 9 = (N.2.1 1 9) := (F_n F89 (show ¬ (1 < 0) by decide) rfl)
          have t_136 : (M95.2.1 1 9).toInt = (N.2.1 1 9).toInt := congrArg Int32.toInt c_135
          have j_137 := (PLs_f (fun a i z => F_n F89 (show ¬ (a < 0) by (first | (clear p_93 p_94; omega) | omega)) rfl) g6)
          have z_138 := LQc_f (fun a i z => (F_n F89 (show ¬ (a < 0) by (first | (clear p_93 p_94; omega) | omega)) rfl)) g8
          refine E_61 hX (by (first | (clear p_93 p_94; omega) | omega)) hG90 hq hp (by (first | (clear p_93 p_94; omega) | omega)) (by (first | (clear p_93 p_94; omega) | omega)) (by (first | (clear p_93 p_94; omega) | omega)) j_134 (by (first | (clear p_93 p_94; omega) | omega)) j_137 z_138 (by (first | (clear p_93 p_94; omega) | omega)) (by (first | (clear p_93 p_94; omega) | omega)) hr (q := q) (p := p) (o := o) (t := t) (nn := nn) (a := (N.2.1 1 9).toInt) (sg := sg) (b := b) (W9 := (x_2s (x4.toInt).toNat W9)) (P9 := P9) (fun r139 M148 hG141 F140 p_142 p_143 p_144 p_145 p_146 p_147 => ?_)
          have F149 := FR.c F96 F140 (fun a i z => show a = 1 ∧ 5 ≤ i ∨ 3 ≤ a ∧ a ≤ 5 ∨ q ≤ a ∧ a ≤ q + 4 by have z : a = 1 ∧ 5 ≤ i ∨ 3 ≤ a ∧ a ≤ 5 ∨ q ≤ a ∧ a ≤ q + 4 := z; omega)
          have b_150 := g_b hG141 (a := q) (i := 4) (lo := 0) (hi := 40) (by rcases hq with rfl | rfl <;> rfl) (by rcases hq with rfl | rfl <;> rfl)
          rcases (show r139.toInt = 0 ∨ r139.toInt = 1 by (first | (clear p_93 p_94 p_145 p_146 p_147; omega) | omega)) with h151 | h151
          · skip
            have p_152 := p_147 (by (first | (clear p_93 p_94 p_145 p_146 p_147; omega) | omega))
            clear p_145 p_146 p_147
            have z_153 := (g10.trans (g_v rfl rfl (show (N.2.1 q 4).toInt = (M95.2.1 q 4).toInt by (first | (clear p_93 p_94 p_145 p_146 p_147; omega) | omega)) rfl rfl)).trans p_152
            refine to_go (pc := 51) rw_60_51 (to_is (pc := 60) rw_60_60 (ls2 := [.ref q, .ref 1, .ref p, .int o, .int x4, .int r139, u6]) rfl rfl (to_c (pc := 62) rw_60_62 (x := (0 : Int32)) rfl rfl (to_is (pc := 63) rw_60_63 (ls2 := [.ref q, .ref 1, .ref p, .int o, .int x4, .int r139, .int (0 : Int32)]) rfl rfl ?_)))
            have k_154 : (0 : Int32).toInt = 0 := rfl
            have j_155 := (PLs_f (fun a i z => F_n F140 (show ¬ (a = 1 ∧ 5 ≤ i ∨ 3 ≤ a ∧ a ≤ 5 ∨ q ≤ a ∧ a ≤ q + 4) by (first | (clear p_93 p_94 p_145 p_146 p_147; omega) | omega)) rfl) j_137)
            exact (U_60_0 (q := q) (p := p) (o := o) (t := t) (nn := nn) (a := a) (sg := sg) (b := b) (W9 := W9) (P9 := P9) hX hd hq hp q1 q2 q3 q4 q5 q6 q7 q8 hr h ((41 - (0 : Int32).toInt).toNat + 1)) M148 (.ref 1) (.ref p) (.int o) x4 r139 (0 : Int32) hG141 F149 (by (first | (clear p_93 p_94 p_145 p_146 p_147; omega) | omega)) (by (first | (clear p_93 p_94 p_145 p_146 p_147; omega) | omega)) (by (first | (clear p_93 p_94 p_145 p_146 p_147; omega) | omega)) (by (first | (clear p_93 p_94 p_145 p_146 p_147; omega) | omega)) (by (first | (clear p_93 p_94 p_145 p_146 p_147; omega) | omega)) (by (first | (clear p_93 p_94 p_145 p_146 p_147; omega) | omega)) p_144 j_155 (fun z => by (first | (clear p_93 p_94 p_145 p_146 p_147; omega) | omega)) (fun z => by exfalso; omega) (fun _ => ginl (by (first | (clear p_93 p_94 p_145 p_146 p_147; omega) | omega)) (by (first | (clear p_93 p_94 p_145 p_146 p_147; omega) | omega)) z_153) (by (first | (clear p_93 p_94 p_145 p_146 p_147; omega) | omega))
          · skip
            have p_156 := p_145 (by (first | (clear p_93 p_94 p_145 p_146 p_147; omega) | omega))
            have p_157 := p_146 (by (first | (clear p_93 p_94 p_145 p_146 p_147; omega) | omega))
            clear p_145 p_146 p_147
            obtain ⟨P158, P158a, P158b, P158c⟩ := p_157
            have z_159 := P158a.1
            have z_160 := (g10.trans (g_v rfl rfl (show (N.2.1 q 4).toInt = (M95.2.1 q 4).toInt by (first | (clear p_93 p_94 p_145 p_146 p_147; omega) | omega)) rfl rfl)).trans P158c
            refine to_go (pc := 51) rw_60_51 (to_is (pc := 60) rw_60_60 (ls2 := [.ref q, .ref 1, .ref p, .int o, .int x4, .int r139, u6]) rfl rfl (to_c (pc := 62) rw_60_62 (x := (0 : Int32)) rfl rfl (to_is (pc := 63) rw_60_63 (ls2 := [.ref q, .ref 1, .ref p, .int o, .int x4, .int r139, .int (0 : Int32)]) rfl rfl ?_)))
            have k_161 : (0 : Int32).toInt = 0 := rfl
            have j_162 := (PLs_f (fun a i z => F_n F140 (show ¬ (a = 1 ∧ 5 ≤ i ∨ 3 ≤ a ∧ a ≤ 5 ∨ q ≤ a ∧ a ≤ q + 4) by (first | (clear p_93 p_94 p_145 p_146 p_147; omega) | omega)) rfl) j_137)
            exact (U_60_0 (q := q) (p := p) (o := o) (t := t) (nn := nn) (a := a) (sg := sg) (b := b) (W9 := W9) (P9 := P9) hX hd hq hp q1 q2 q3 q4 q5 q6 q7 q8 hr h ((41 - (0 : Int32).toInt).toNat + 1)) M148 (.ref 1) (.ref p) (.int o) x4 r139 (0 : Int32) hG141 F149 (by (first | (clear p_93 p_94 p_145 p_146 p_147; omega) | omega)) (by (first | (clear p_93 p_94 p_145 p_146 p_147; omega) | omega)) (by (first | (clear p_93 p_94 p_145 p_146 p_147; omega) | omega)) (by (first | (clear p_93 p_94 p_145 p_146 p_147; omega) | omega)) (by (first | (clear p_93 p_94 p_145 p_146 p_147; omega) | omega)) (by (first | (clear p_93 p_94 p_145 p_146 p_147; omega) | omega)) p_144 j_162 (fun z => by (first | (clear p_93 p_94 p_145 p_146 p_147; omega) | omega)) (fun _ => ⟨P158, P158a, (by (first | (clear p_93 p_94 p_145 p_146 p_147; omega) | omega)), (by (first | (clear p_93 p_94 p_145 p_146 p_147; omega) | omega)), z_160.trans (g_v rfl rfl (by (first | (clear p_93 p_94 p_145 p_146 p_147; omega) | omega)) (by rw [show x4.toInt - (0 : Int32).toInt = x4.toInt by (first | (clear p_93 p_94 p_145 p_146 p_147; omega) | omega)]) (by (first | (clear p_93 p_94 p_145 p_146 p_147; omega) | omega)))⟩) (fun z => by exfalso; omega) (by (first | (clear p_93 p_94 p_145 p_146 p_147; omega) | omega))
      · skip
        have p_163 := p_93 (by (first | (clear p_93 p_94; omega) | omega))
        clear p_93 p_94
        refine b_ieq_f (pc := 16) rw_60_16 (A := r88.toInt) rfl (by (first | (clear p_93 p_94; omega) | omega)) (to_an (pc := 19) rw_60_19 rfl (to_an (pc := 20) rw_60_20 rfl (s_v (pc := 21) rw_60_21 (by (first | (clear p_93 p_94; omega) | omega)) (ls0 := [.ref q, .ref 1]) rfl (Nat.le_of_ble_eq_true rfl) (Nat.le_of_ble_eq_true rfl) rfl (to_rc rfl rfl rfl (g_o hG90 (by rcases hq with rfl | rfl <;> rfl))) rfl ?_)))
        have c_164 : M95.2.1 q 4 = (N.2.1 q 4) := (F_n F89 (show ¬ (q < 0) by (first | (clear p_93 p_94; omega) | omega)) rfl)
        have t_165 : (M95.2.1 q 4).toInt = (N.2.1 q 4).toInt := congrArg Int32.toInt c_164
        have j_166 := (CS_f (tg_28 F89) g5)
        have c_167 : M95.2.1 1 9 = (N.2.1 1 9) := (F_n F89 (show ¬ (1 < 0) by decide) rfl)
        have t_168 : (M95.2.1 1 9).toInt = (N.2.1 1 9).toInt := congrArg Int32.toInt c_167
        refine E_63 hX (by (first | (clear p_93 p_94; omega) | omega)) hG90 hq j_166 (by (first | (clear p_93 p_94; omega) | omega)) (q := q) (t := t) (nn := nn) (a := (N.2.1 1 9).toInt) (fun r169 M177 hG171 F170 p_172 p_173 p_174 p_175 p_176 => ?_)
        have F178 := FR.c F96 F170 (fun a i z => show a = 1 ∧ 5 ≤ i ∨ 3 ≤ a ∧ a ≤ 5 ∨ q ≤ a ∧ a ≤ q + 4 by have z : a = 1 ∧ 6 ≤ i ∧ i ≤ 11 ∨ a = q ∧ i = 4 := z; omega)
        have b_179 := g_b hG171 (a := q) (i := 4) (lo := 0) (hi := 40) (by rcases hq with rfl | rfl <;> rfl) (by rcases hq with rfl | rfl <;> rfl)
        rcases (show r169.toInt = 0 ∨ r169.toInt = 1 by (first | (clear p_93 p_94 p_175 p_176; omega) | omega)) with h180 | h180
        · skip
          have p_181 := p_176 (by (first | (clear p_93 p_94 p_175 p_176; omega) | omega))
          clear p_175 p_176
          have z_182 := g10.trans (g_nox (by (first | (clear p_93 p_94 p_175 p_176; omega) | omega)) (by (first | (clear p_93 p_94 p_175 p_176; omega) | omega)) (by (first | (clear p_93 p_94 p_175 p_176; omega) | omega)) (by (first | (clear p_93 p_94 p_175 p_176; omega) | omega)))
          refine b_ine_f (pc := 24) rw_60_24 (A := r169.toInt) rfl (by (first | (clear p_93 p_94 p_175 p_176; omega) | omega)) (to_c (pc := 27) rw_60_27 (x := (0 : Int32)) rfl rfl (s_r1 (pc := 28) rw_60_28 (A := 0) rfl (by decide) ?_))
          have k_183 : (0 : Int32).toInt = 0 := rfl
          exact h (0 : Int32) M177 hG171 F178 (by decide) (by decide) p_174 (by (first | (clear p_93 p_94 p_175 p_176; omega) | omega)) (fun z => by exfalso; omega) (fun _ => ginl (by (first | (clear p_93 p_94 p_175 p_176; omega) | omega)) (by (first | (clear p_93 p_94 p_175 p_176; omega) | omega)) z_182)
        · skip
          have p_184 := p_175 (by (first | (clear p_93 p_94 p_175 p_176; omega) | omega))
          clear p_175 p_176
          have z_185 := g10.trans (g_noq (by (first | (clear p_93 p_94 p_175 p_176; omega) | omega)) (by (first | (clear p_93 p_94 p_175 p_176; omega) | omega)) (by (first | (clear p_93 p_94 p_175 p_176; omega) | omega)) (by (first | (clear p_93 p_94 p_175 p_176; omega) | omega)))
          refine b_ine_t (pc := 24) rw_60_24 (A := r169.toInt) rfl (by (first | (clear p_93 p_94 p_175 p_176; omega) | omega)) (s_inc (pc := 29) rw_60_29 (ls2 := fun v => [.ref q, .ref 1, .ref p, .int o, .int v, u5, u6]) rfl rfl (fun _ => rfl) (A := x4.toInt) (B := 1) rfl rfl (by (first | (clear p_93 p_94 p_175 p_176; omega) | omega)) (fun v186 e187 => to_go (pc := 32) rw_60_32 ?_))
          have j_188 := (PLs_f (fun a i z => F_n F170 (show ¬ (a = 1 ∧ 6 ≤ i ∧ i ≤ 11 ∨ a = q ∧ i = 4) by (first | (clear p_93 p_94 p_175 p_176; omega) | omega)) rfl) (PLs_f (fun a i z => F_n F89 (show ¬ (a < 0) by (first | (clear p_93 p_94 p_175 p_176; omega) | omega)) rfl) g6))
          have z_189 := LQc_f (fun a i z => (F_n F170 (show ¬ (a = 1 ∧ 6 ≤ i ∧ i ≤ 11 ∨ a = q ∧ i = 4) by (first | (clear p_93 p_94 p_175 p_176; omega) | omega)) (F_n F89 (show ¬ (a < 0) by (first | (clear p_93 p_94 p_175 p_176; omega) | omega)) rfl))) g8
          exact ih M177 v186 (u5) (u6) hG171 F178 (by (first | (clear p_93 p_94 p_175 p_176; omega) | omega)) (by (first | (clear p_93 p_94 p_175 p_176; omega) | omega)) (by (first | (clear p_93 p_94 p_175 p_176; omega) | omega)) (by (first | (clear p_93 p_94 p_175 p_176; omega) | omega)) p_174 j_188 (by (first | (clear p_93 p_94 p_175 p_176; omega) | omega)) z_189 (by (first | (clear p_93 p_94 p_175 p_176; omega) | omega)) (z_185.trans (g_v rfl rfl (show ((N.2.1 q 4).toInt + 1) = (M177.2.1 q 4).toInt by (first | (clear p_93 p_94 p_175 p_176; omega) | omega)) (x_2s_s (by (first | (clear p_93 p_94 p_175 p_176; omega) | omega)) (by (first | (clear p_93 p_94 p_175 p_176; omega) | omega))) (show (x_ns t nn (N.2.1 1 9).toInt) = (M177.2.1 1 9).toInt by (first | (clear p_93 p_94 p_175 p_176; omega) | omega)))) (by (first | (clear p_93 p_94 p_175 p_176; omega) | omega))
set_option maxRecDepth 4000 in
set_option maxHeartbeats 0 in
theorem E_60 {X : mm_X} {d : Nat} {M : mm_M} {Q : Option Value → mm_M → Prop} {q : Nat} {p : Nat} {o : Int32} {t : Nat → Int} {nn : Int} {a : Int} {sg : x_S} {b : Int} {W9 : List Int} {P9 : x_GP} (hX : g_X X) (hd : 3 + 4 * (8 - o.toInt) ≤ (d : Int)) (hG : g_G M) (hq : q = 67 ∨ q = 72) (hp : p = 49 ∨ p = 58) (q1 : 0 ≤ o.toInt) (q2 : o.toInt ≤ 8) (q3 : o.toInt = b) (q4 : CS M t nn) (q5 : (M.2.1 1 9).toInt = a) (q6 : PLs M p sg) (q7 : LQc M q P9) (q8 : (M.2.1 q 4).toInt = P9.2 + x_wc W9) (hr : RE_58 (8 - o.toInt)) (h : ∀ (r : Int32) (M1 : mm_M), g_G M1 → FR (md_qq q) M M1 → (0 ≤ r.toInt) → (r.toInt ≤ 1) → CS M1 t nn → (r.toInt = 1 → (M.2.1 q 4).toInt < (M1.2.1 q 4).toInt) → ((r.toInt = 1 → ∃ P2 : x_GP, LQc M1 q P2 ∧ (M1.2.1 q 4).toInt = P2.2 + x_wc W9 ∧ x_gg t nn sg 0 b (M.2.1 q 4).toInt W9 P9 a = x_gg t nn sg 1 b (M1.2.1 q 4).toInt W9 P2 (M1.2.1 1 9).toInt)) → ((r.toInt = 0 → x_gg t nn sg 0 b (M.2.1 q 4).toInt W9 P9 a = Sum.inl ((M1.2.1 1 10).toInt, (M1.2.1 1 11).toInt))) → Q (some (.int r)) M1) : mm_T X d 60 0 [.ref q, .ref 1, .ref p, .int o, .null, .null, .null] [] M Q := by
  have F0 : FR (md_qq q) M M := FR.rf
  have b_190 := g_b hG (a := q) (i := 4) (lo := 0) (hi := 40) (by rcases hq with rfl | rfl <;> rfl) (by rcases hq with rfl | rfl <;> rfl)
  have z_191 := x_wc_b W9
  refine to_c (pc := 0) rw_60_0 (x := (0 : Int32)) rfl rfl (to_is (pc := 1) rw_60_1 (ls2 := [.ref q, .ref 1, .ref p, .int o, .int (0 : Int32), .null, .null]) rfl rfl ?_)
  have k_192 : (0 : Int32).toInt = 0 := rfl
  exact (U_60_1 (q := q) (p := p) (o := o) (t := t) (nn := nn) (a := a) (sg := sg) (b := b) (W9 := W9) (P9 := P9) hX hd hq hp q1 q2 q3 q4 q5 q6 q7 q8 hr h ((41 - (0 : Int32).toInt).toNat + 1)) M (0 : Int32) (.null) (.null) hG F0 (by omega) (by omega) (by omega) (by omega) q4 q6 (by omega) q7 (by omega) (g_v rfl rfl rfl (x_2s_0 (by omega)).symm (by omega)) (by omega)
