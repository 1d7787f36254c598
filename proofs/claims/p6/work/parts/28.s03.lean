theorem tg_121 {M M1 : mm_M} (F : FR (fun a i : Nat => a = 1 ∧ 6 ≤ i ∧ i ≤ 11) M M1) : ∀ a i : Nat, (a = 68 ∨ a = 69 ∨ a = 73 ∨ a = 74) → M1.2.1 a i = M.2.1 a i := fun a i z => F_n F (show ¬ (a = 1 ∧ 6 ≤ i ∧ i ≤ 11) by omega) rfl
theorem tg_122 : ∀ a i : Nat, (a = 1 ∧ 5 ≤ i ∨ 3 ≤ a ∧ a ≤ 5 ∨ 67 ≤ a ∧ a ≤ 76) → (a = 1 ∧ 5 ≤ i ∨ 3 ≤ a ∧ a ≤ 5 ∨ 67 ≤ a ∧ a ≤ 76) := fun a i z => by omega
theorem tg_123 : ∀ a i : Nat, (a = 1 ∧ 6 ≤ i ∧ i ≤ 11) → (a = 1 ∧ 5 ≤ i ∨ 3 ≤ a ∧ a ≤ 5 ∨ 67 ≤ a ∧ a ≤ 76) := fun a i z => by omega
noncomputable def RE_58 (k : Int) : Prop := ∀ (X : mm_X) (d : Nat) (M : mm_M) (Q : Option Value → mm_M → Prop) (q : Nat) (p : Nat) (o : Int32) (t : Nat → Int) (nn : Int) (a : Int) (sg : x_S) (b : Int), g_X X → (5 + 4 * (8 - o.toInt) ≤ (d : Int)) → g_G M → (q = 67 ∨ q = 72) → (p = 49 ∨ p = 58) → (0 ≤ o.toInt) → (o.toInt ≤ 8) → (o.toInt = b) → QI M → CS M t nn → ((M.2.1 1 9).toInt = a) → PLs M p sg → 8 - o.toInt < k → (∀ (r : Int32) (M1 : mm_M), g_G M1 → FR md_qt M M1 → (0 ≤ r.toInt) → (r.toInt ≤ 1) → QI M1 → CS M1 t nn → (r.toInt = 1 → (M.2.1 q 4).toInt < (M1.2.1 q 4).toInt) → ((r.toInt = 1 → x_qq t nn sg 0 b (M.2.1 q 4).toInt a = x_qq t nn sg 1 b (M1.2.1 q 4).toInt (M1.2.1 1 9).toInt)) → ((r.toInt = 0 → x_qq t nn sg 0 b (M.2.1 q 4).toInt a = Sum.inl ((M1.2.1 1 10).toInt, (M1.2.1 1 11).toInt))) → ((r.toInt = 1 → ¬ (x_kind t nn (M1.2.1 1 9).toInt = 1 ∧ x_kx (x_val t nn (M1.2.1 1 9).toInt) = 12) ∧ ¬ (x_kind t nn (M1.2.1 1 9).toInt = 1 ∧ x_kx (x_val t nn (M1.2.1 1 9).toInt) = 13))) → Q (some (.int r)) M1) → mm_T X d 58 0 [.ref q, .ref 1, .ref p, .int o, .null] [] M Q
set_option maxRecDepth 4000 in
set_option maxHeartbeats 0 in
theorem E_61 {X : mm_X} {d : Nat} {M : mm_M} {Q : Option Value → mm_M → Prop} {q : Nat} {p : Nat} {o : Int32} {t : Nat → Int} {nn : Int} {a : Int} {sg : x_S} {b : Int} (hX : g_X X) (hd : 2 + 4 * (8 - o.toInt) ≤ (d : Int)) (hG : g_G M) (hq : q = 67 ∨ q = 72) (hp : p = 49 ∨ p = 58) (q1 : 0 ≤ o.toInt) (q2 : o.toInt ≤ 8) (q3 : o.toInt = b) (q4 : QI M) (q5 : CS M t nn) (q6 : (M.2.1 1 9).toInt = a) (q7 : PLs M p sg) (q8 : x_kind t nn a = 4 ∧ x_val t nn a = 40) (hr : RE_58 (8 - o.toInt)) (h : ∀ (r : Int32) (M1 : mm_M), g_G M1 → FR md_qt M M1 → (0 ≤ r.toInt) → (r.toInt ≤ 1) → QI M1 → CS M1 t nn → (r.toInt = 1 → (M.2.1 q 4).toInt < (M1.2.1 q 4).toInt) → ((r.toInt = 1 → x_qq t nn sg 0 b (M.2.1 q 4).toInt a = x_qq t nn sg 1 b (M1.2.1 q 4).toInt (M1.2.1 1 9).toInt)) → ((r.toInt = 0 → x_qq t nn sg 0 b (M.2.1 q 4).toInt a = Sum.inl ((M1.2.1 1 10).toInt, (M1.2.1 1 11).toInt))) → Q (some (.int r)) M1) : mm_T X d 61 0 [.ref q, .ref 1, .ref p, .int o] [] M Q := by
  have F0 : FR md_qt M M := FR.rf
  have b_1 := g_b hG (a := q) (i := 4) (lo := 0) (hi := 40) (by rcases hq with rfl | rfl <;> rfl) (by rcases hq with rfl | rfl <;> rfl)
  have c_2 := CS_u q5 (a := a) (by omega)
  unfold x_C at c_2
  refine to_in (pc := 0) rw_61_0 rfl (to_c (pc := 1) rw_61_1 (x := (8 : Int32)) rfl rfl (b_clt (pc := 3) rw_61_3 (A := o.toInt) (B := 8) rfl rfl (fun h3 => ?_) (fun h3 => ?_)))
  · refine to_an (pc := 12) rw_61_12 rfl (s_v (pc := 13) rw_61_13 (by omega) (ls0 := [.ref 1]) rfl (Nat.le_of_ble_eq_true rfl) (Nat.le_of_ble_eq_true rfl) rfl (to_rc rfl rfl rfl (g_o hG rfl)) rfl (E_83 hX (by omega) hG q5 (by omega) (t := t) (nn := nn) (a := a) (fun M8 hG5 F4 p_6 p_7 => ?_)))
    have F9 := FR.c F0 F4 tg_117
    have z_10 := (q_lp (t := t) (nn := nn) (s := sg) (br := b) (cn := (M.2.1 q 4).toInt) (a := a) (by omega) (by omega) q8 (by omega))
    refine to_an (pc := 16) rw_61_16 rfl (to_an (pc := 17) rw_61_17 rfl (to_an (pc := 18) rw_61_18 rfl (to_in (pc := 19) rw_61_19 rfl (to_c (pc := 20) rw_61_20 (x := (1 : Int32)) rfl rfl (s_add (pc := 21) rw_61_21 (A := o.toInt) (B := 1) rfl rfl (by omega) (fun v11 e12 => s_v (pc := 22) rw_61_22 (by omega) (ls0 := [.ref q, .ref 1, .ref p, .int v11, .null]) rfl (Nat.le_of_ble_eq_true rfl) (Nat.le_of_ble_eq_true rfl) rfl (to_rc rfl rfl rfl (g_o hG5 (by rcases hq with rfl | rfl <;> rfl))) rfl ?_))))))
    have c_13 : M8.2.1 q 4 = (M.2.1 q 4) := (F_n F4 (show ¬ (q = 1 ∧ 6 ≤ 4 ∧ 4 ≤ 9) by omega) rfl)
    have t_14 : (M8.2.1 q 4).toInt = (M.2.1 q 4).toInt := congrArg Int32.toInt c_13
    have j_15 := (QI_f (tg_113 F4) q4)
    have j_16 := (PLs_f (fun a i z => F_n F4 (show ¬ (a = 1 ∧ 6 ≤ i ∧ i ≤ 9) by omega) rfl) q7)
    refine hr X _ _ _ q p v11 t nn (x_ns t nn a) sg (b + 1) hX (by omega) hG5 hq hp (by omega) (by omega) (by omega) j_15 p_6 (by omega) j_16 (by omega) (fun r17 M28 hG19 F18 p_20 p_21 p_22 p_23 p_24 p_25 p_26 p_27 => ?_)
    have F29 := FR.c F9 F18 tg_122
    have b_30 := g_b hG19 (a := q) (i := 4) (lo := 0) (hi := 40) (by rcases hq with rfl | rfl <;> rfl) (by rcases hq with rfl | rfl <;> rfl)
    rcases (show r17.toInt = 0 ∨ r17.toInt = 1 by omega) with h31 | h31
    · skip
      have p_32 := p_26 (by omega)
      clear p_24 p_25 p_26 p_27
      have z_33 := ((z_10).trans (q_v rfl (by omega) (by omega))).trans p_32
      refine b_ieq_t (pc := 25) rw_61_25 (A := r17.toInt) rfl (by omega) (to_c (pc := 41) rw_61_41 (x := (0 : Int32)) rfl rfl (s_r1 (pc := 42) rw_61_42 (A := 0) rfl (by decide) ?_))
      have k_34 : (0 : Int32).toInt = 0 := rfl
      exact h (0 : Int32) M28 hG19 F29 (by decide) (by decide) p_22 p_23 (by omega) (fun z => by exfalso; omega) (fun _ => inl_e (by omega) (by omega) z_33)
    · skip
      have p_35 := p_24 (by omega)
      have p_36 := p_25 (by omega)
      have p_37 := p_27 (by omega)
      clear p_24 p_25 p_26 p_27
      have z_38 := ((z_10).trans (q_v rfl (by omega) (by omega))).trans p_36
      have c_39 := CS_u p_23 (a := (M28.2.1 1 9).toInt) (by omega)
      unfold x_C at c_39
      refine b_ieq_f (pc := 25) rw_61_25 (A := r17.toInt) rfl (by omega) (to_an (pc := 28) rw_61_28 rfl (to_c (pc := 29) rw_61_29 (x := (41 : Int32)) rfl rfl (s_v (pc := 31) rw_61_31 (by omega) (ls0 := [.ref 1, .int (41 : Int32)]) rfl (Nat.le_of_ble_eq_true rfl) (Nat.le_of_ble_eq_true rfl) rfl (to_rc rfl rfl rfl (g_o hG19 rfl)) rfl ?_)))
      have k_40 : (41 : Int32).toInt = 41 := rfl
      refine E_90s hX (by omega) hG19 p_23 (by omega) (by omega) (c := (41 : Int32)) (t := t) (nn := nn) (a := (M28.2.1 1 9).toInt) (fun r41 M51 hG43 F42 p_44 p_45 p_46 p_47 p_48 p_49 p_50 => ?_)
      have F52 := FR.c F29 F42 tg_123
      rcases (show r41.toInt = 0 ∨ r41.toInt = 1 by (first | (clear p_47 p_48 p_49 p_50; omega) | omega)) with h53 | h53
      · skip
        have p_54 := p_48 (by (first | (clear p_47 p_48 p_49 p_50; omega) | omega))
        have p_55 := p_49 (by (first | (clear p_47 p_48 p_49 p_50; omega) | omega))
        clear p_47 p_48 p_49 p_50
        have z_56 := z_38.trans (q_1x (by omega) (by omega) (by omega) (by omega) (by omega))
        refine b_ieq_t (pc := 34) rw_61_34 (A := r41.toInt) rfl (by omega) (to_c (pc := 41) rw_61_41 (x := (0 : Int32)) rfl rfl (s_r1 (pc := 42) rw_61_42 (A := 0) rfl (by decide) ?_))
        have k_57 : (0 : Int32).toInt = 0 := rfl
        have j_58 := (QI_f (tg_121 F42) p_22)
        have c_59 : M51.2.1 q 4 = (M28.2.1 q 4) := (F_n F42 (show ¬ (q = 1 ∧ 6 ≤ 4 ∧ 4 ≤ 11) by omega) rfl)
        have t_60 : (M51.2.1 q 4).toInt = (M28.2.1 q 4).toInt := congrArg Int32.toInt c_59
        exact h (0 : Int32) M51 hG43 F52 (by decide) (by decide) j_58 p_46 (by omega) (fun z => by exfalso; omega) (fun _ => inl_e (by omega) (by omega) z_56)
      · skip
        have p_61 := p_47 (by (first | (clear p_47 p_48 p_49 p_50; omega) | omega))
        have p_62 := p_50 (by (first | (clear p_47 p_48 p_49 p_50; omega) | omega))
        clear p_47 p_48 p_49 p_50
        have z_63 := z_38.trans ((q_rp (by omega) (by omega) (by omega) (by omega)).trans (q_v (show b + 1 - 1 = b by omega) rfl rfl))
        refine b_ieq_f (pc := 34) rw_61_34 (A := r41.toInt) rfl (by omega) (to_c (pc := 37) rw_61_37 (x := (1 : Int32)) rfl rfl (to_go (pc := 38) rw_61_38 (s_r1 (pc := 42) rw_61_42 (A := 1) rfl (by decide) ?_)))
        have k_64 : (1 : Int32).toInt = 1 := rfl
        have j_65 := (QI_f (tg_121 F42) p_22)
        have c_66 : M51.2.1 q 4 = (M28.2.1 q 4) := (F_n F42 (show ¬ (q = 1 ∧ 6 ≤ 4 ∧ 4 ≤ 11) by omega) rfl)
        have t_67 : (M51.2.1 q 4).toInt = (M28.2.1 q 4).toInt := congrArg Int32.toInt c_66
        exact h (1 : Int32) M51 hG43 F52 (by decide) (by decide) j_65 p_46 (by omega) (fun _ => (z_63.trans (q_v rfl (show (M28.2.1 q 4).toInt = (M51.2.1 q 4).toInt by omega) (show (x_ns t nn (M28.2.1 1 9).toInt) = (M51.2.1 1 9).toInt by omega)))) (fun z => by exfalso; omega)
  · refine to_an (pc := 6) rw_61_6 rfl (to_c (pc := 7) rw_61_7 (x := (2 : Int32)) rfl rfl (s_v (pc := 8) rw_61_8 (by omega) (ls0 := [.ref 1, .int (2 : Int32)]) rfl (Nat.le_of_ble_eq_true rfl) (Nat.le_of_ble_eq_true rfl) rfl (to_rc rfl rfl rfl (g_o hG rfl)) rfl (to_an (pc := 0) rw_84_0 rfl (to_in (pc := 1) rw_84_1 rfl (s_pI (pc := 2) rw_84_2 hG rfl (fun M69 W68 => ?_))))))
    have hG70 := g_wf hG W68 rfl rfl (by decide)
    have F71 := FR.w F0 W68 (show 1 = 1 ∧ 5 ≤ 10 ∨ 3 ≤ 1 ∧ 1 ≤ 5 ∨ 67 ≤ 1 ∧ 1 ≤ 76 by decide)
    refine to_an (pc := 5) rw_84_5 rfl (to_an (pc := 6) rw_84_6 rfl ?_)
    have c_72 : M69.2.1 1 9 = (M.2.1 1 9) := (W_n W68 (by decide) rfl)
    refine tt_gI (pc := 7) rw_84_7 (g_o hG70 rfl) (v := (M.2.1 1 9)) c_72 (s_pI (pc := 10) rw_84_10 hG70 rfl (fun M74 W73 => ?_))
    have hG75 := g_wf hG70 W73 rfl rfl (by decide)
    have F76 := FR.w F71 W73 (show 1 = 1 ∧ 5 ≤ 11 ∨ 3 ≤ 1 ∧ 1 ≤ 5 ∨ 67 ≤ 1 ∧ 1 ≤ 76 by decide)
    refine to_c (pc := 13) rw_84_13 (x := (0 : Int32)) rfl rfl (s_r1 (pc := 14) rw_84_14 (A := 0) rfl (by decide) (s_r1 (pc := 11) rw_61_11 (A := 0) rfl (by decide) ?_))
    have k_77 : (0 : Int32).toInt = 0 := rfl
    have j_78 := (QI_f (fun a i z => W_n W73 (tg_119 a i z) rfl) (QI_f (fun a i z => W_n W68 (tg_120 a i z) rfl) q4))
    have j_79 := (CS_f (fun a i z => W_n W73 (tg_32 a i z) rfl) (CS_f (fun a i z => W_n W68 (tg_33 a i z) rfl) q5))
    have c_80 : M74.2.1 q 4 = (M.2.1 q 4) := (W_n W73 (by omega) (W_n W68 (by omega) rfl))
    have t_81 : (M74.2.1 q 4).toInt = (M.2.1 q 4).toInt := congrArg Int32.toInt c_80
    have c_82 : M74.2.1 1 10 = (2 : Int32) := (W_n W73 (by decide) (W_e W68))
    have k_83 : (2 : Int32).toInt = 2 := rfl
    have t_84 : (M74.2.1 1 10).toInt = (2 : Int32).toInt := congrArg Int32.toInt c_82
    have c_85 : M74.2.1 1 11 = (M.2.1 1 9) := (W_e W73)
    have t_86 : (M74.2.1 1 11).toInt = (M.2.1 1 9).toInt := congrArg Int32.toInt c_85
    exact h (0 : Int32) M74 hG75 F76 (by decide) (by decide) j_78 j_79 (by omega) (fun z => by exfalso; omega) (fun _ => inl_e (by omega) (by omega) (q_lpx (by omega) (by omega) q8 (by omega)))
set_option maxRecDepth 4000 in
set_option maxHeartbeats 0 in
theorem U_60_0 {X : mm_X} {d : Nat} {M : mm_M} {Q : Option Value → mm_M → Prop} {q : Nat} {p : Nat} {o : Int32} {t : Nat → Int} {nn : Int} {a : Int} {sg : x_S} {b : Int} (hX : g_X X) (hd : 3 + 4 * (8 - o.toInt) ≤ (d : Int)) (hq : q = 67 ∨ q = 72) (hp : p = 49 ∨ p = 58) (q1 : 0 ≤ o.toInt) (q2 : o.toInt ≤ 8) (q3 : o.toInt = b) (q4 : QI M) (q5 : CS M t nn) (q6 : (M.2.1 1 9).toInt = a) (q7 : PLs M p sg) (hr : RE_58 (8 - o.toInt)) (h : ∀ (r : Int32) (M1 : mm_M), g_G M1 → FR md_qt M M1 → (0 ≤ r.toInt) → (r.toInt ≤ 1) → QI M1 → CS M1 t nn → (r.toInt = 1 → (M.2.1 q 4).toInt < (M1.2.1 q 4).toInt) → ((r.toInt = 1 → x_qq t nn sg 0 b (M.2.1 q 4).toInt a = x_qq t nn sg 1 b (M1.2.1 q 4).toInt (M1.2.1 1 9).toInt)) → ((r.toInt = 0 → x_qq t nn sg 0 b (M.2.1 q 4).toInt a = Sum.inl ((M1.2.1 1 10).toInt, (M1.2.1 1 11).toInt))) → Q (some (.int r)) M1) : ∀ nn9 : Nat, (∀ (N : mm_M) (u1 : Value) (u2 : Value) (u3 : Value) (x4 : Int32) (x5 : Int32) (x6 : Int32), g_G N → FR md_qt M N → (0 ≤ x6.toInt) → (x6.toInt ≤ 41) → (0 ≤ x4.toInt) → (x4.toInt ≤ 41) → (0 ≤ x5.toInt) → (x5.toInt ≤ 1) → (QI N) → (CS N t nn) → (PLs N p sg) → (x5.toInt = 1 → (M.2.1 q 4).toInt < (N.2.1 q 4).toInt) → ((x5.toInt = 1 → x_qq t nn sg 0 b (M.2.1 q 4).toInt a = x_qq t nn sg 1 b (N.2.1 q 4).toInt (N.2.1 1 9).toInt)) → ((x5.toInt = 0 → x_qq t nn sg 0 b (M.2.1 q 4).toInt a = Sum.inl ((N.2.1 1 10).toInt, (N.2.1 1 11).toInt))) → 41 - x6.toInt < (nn9 : Int) → mm_T X d 60 65 [.ref q, u1, u2, u3, .int x4, .int x5, .int x6] [] N Q) := by
  intro nn9
  induction nn9 with
  | zero =>
    intro N u1 u2 u3 x4 x5 x6 hG F0 g1 g2 g3 g4 g5 g6 g7 g8 g9 g10 g11 g12 hm
    have b_1 := g_b hG (a := q) (i := 4) (lo := 0) (hi := 40) (by rcases hq with rfl | rfl <;> rfl) (by rcases hq with rfl | rfl <;> rfl)
    exfalso; omega
  | succ nn9 ih =>
    intro N u1 u2 u3 x4 x5 x6 hG F0 g1 g2 g3 g4 g5 g6 g7 g8 g9 g10 g11 g12 hm
    have b_2 := g_b hG (a := q) (i := 4) (lo := 0) (hi := 40) (by rcases hq with rfl | rfl <;> rfl) (by rcases hq with rfl | rfl <;> rfl)
    refine to_i (pc := 65) rw_60_65 rfl (to_i (pc := 67) rw_60_67 rfl (b_cge (pc := 69) rw_60_69 (A := x6.toInt) (B := x4.toInt) rfl rfl (fun h3 => ?_) (fun h3 => ?_)))
    · refine to_i (pc := 90) rw_60_90 rfl (s_r1 (pc := 92) rw_60_92 (A := x5.toInt) rfl (by (first | (clear g10 g11 g12; omega) | omega)) ?_)
      exact h x5 N hG F0 (by (first | (clear g10 g11 g12; omega) | omega)) (by (first | (clear g10 g11 g12; omega) | omega)) g7 g8 (by (first | (clear g10 g11 g12; omega) | omega)) (fun z => (g11 (by (first | (clear g10 g11 g12; omega) | omega))).trans (q_v rfl (by (first | (clear g10 g11 g12; omega) | omega)) (by (first | (clear g10 g11 g12; omega) | omega)))) (fun z => inl_e (by (first | (clear g10 g11 g12; omega) | omega)) (by (first | (clear g10 g11 g12; omega) | omega)) (g12 (by (first | (clear g10 g11 g12; omega) | omega))))
    · refine to_i (pc := 72) rw_60_72 rfl (b_ieq (pc := 74) rw_60_74 (A := x5.toInt) rfl (fun h4 => ?_) (fun h4 => ?_))
      · refine to_i (pc := 90) rw_60_90 rfl (s_r1 (pc := 92) rw_60_92 (A := x5.toInt) rfl (by (first | (clear g10 g11 g12; omega) | omega)) ?_)
        exact h x5 N hG F0 (by (first | (clear g10 g11 g12; omega) | omega)) (by (first | (clear g10 g11 g12; omega) | omega)) g7 g8 (by (first | (clear g10 g11 g12; omega) | omega)) (fun z => (g11 (by (first | (clear g10 g11 g12; omega) | omega))).trans (q_v rfl (by (first | (clear g10 g11 g12; omega) | omega)) (by (first | (clear g10 g11 g12; omega) | omega)))) (fun z => inl_e (by (first | (clear g10 g11 g12; omega) | omega)) (by (first | (clear g10 g11 g12; omega) | omega)) (g12 (by (first | (clear g10 g11 g12; omega) | omega))))
      · refine to_an (pc := 77) rw_60_77 rfl (to_c (pc := 78) rw_60_78 (x := (2 : Int32)) rfl rfl (to_c (pc := 79) rw_60_79 (x := (0 : Int32)) rfl rfl (to_c (pc := 80) rw_60_80 (x := (0 : Int32)) rfl rfl (s_v (pc := 81) rw_60_81 (by (first | (clear g10 g11 g12 h4; omega) | (clear g10 g11 g12; omega) | omega)) (ls0 := [.ref q, .int (2 : Int32), .int (0 : Int32), .int (0 : Int32)]) rfl (Nat.le_of_ble_eq_true rfl) (Nat.le_of_ble_eq_true rfl) rfl (to_rc rfl rfl rfl (g_o hG (by rcases hq with rfl | rfl <;> rfl))) rfl ?_))))
        have k_5 : (2 : Int32).toInt = 2 := rfl
        have k_6 : (0 : Int32).toInt = 0 := rfl
        refine E_64 hX (by (first | (clear g10 g11 g12 h4; omega) | (clear g10 g11 g12; omega) | omega)) hG hq (by (first | (clear g10 g11 g12 h4; omega) | (clear g10 g11 g12; omega) | omega)) (by (first | (clear g10 g11 g12 h4; omega) | (clear g10 g11 g12; omega) | omega)) (by (first | (clear g10 g11 g12 h4; omega) | (clear g10 g11 g12; omega) | omega)) (by (first | (clear g10 g11 g12 h4; omega) | (clear g10 g11 g12; omega) | omega)) (by (first | (clear g10 g11 g12 h4; omega) | (clear g10 g11 g12; omega) | omega)) g7 (q := q) (k := (2 : Int32)) (f := (0 : Int32)) (s := (0 : Int32)) (fun M10 hG8 F7 p_9 => ?_)
        have F11 := FR.c F0 F7 tg_116
        refine s_inc (pc := 84) rw_60_84 (ls2 := fun v => [.ref q, u1, u2, u3, .int x4, .int x5, .int v]) rfl rfl (fun _ => rfl) (A := x6.toInt) (B := 1) rfl rfl (by (first | (clear g10 g11 g12 h4; omega) | (clear g10 g11 g12; omega) | omega)) (fun v12 e13 => to_go (pc := 87) rw_60_87 ?_)
        have j_14 := (CS_f (tg_111 F7) g8)
        have j_15 := (PLs_f (fun a i z => F_n F7 (show ¬ ((a = 67 ∨ a = 72) ∧ i = 5 ∨ 68 ≤ a ∧ a ≤ 70 ∨ 73 ≤ a ∧ a ≤ 75) by (first | (clear g10 g11 g12 h4; omega) | (clear g10 g11 g12; omega) | omega)) rfl) g9)
        have c_16 : M10.2.1 q 4 = (N.2.1 q 4) := (F_n F7 (show ¬ ((q = 67 ∨ q = 72) ∧ 4 = 5 ∨ 68 ≤ q ∧ q ≤ 70 ∨ 73 ≤ q ∧ q ≤ 75) by (first | (clear g10 g11 g12 h4; omega) | (clear g10 g11 g12; omega) | omega)) rfl)
        have t_17 : (M10.2.1 q 4).toInt = (N.2.1 q 4).toInt := congrArg Int32.toInt c_16
        have c_18 : M10.2.1 1 9 = (N.2.1 1 9) := (F_n F7 (show ¬ ((1 = 67 ∨ 1 = 72) ∧ 9 = 5 ∨ 68 ≤ 1 ∧ 1 ≤ 70 ∨ 73 ≤ 1 ∧ 1 ≤ 75) by decide) rfl)
        have t_19 : (M10.2.1 1 9).toInt = (N.2.1 1 9).toInt := congrArg Int32.toInt c_18
        have c_20 : M10.2.1 1 10 = (N.2.1 1 10) := (F_n F7 (show ¬ ((1 = 67 ∨ 1 = 72) ∧ 10 = 5 ∨ 68 ≤ 1 ∧ 1 ≤ 70 ∨ 73 ≤ 1 ∧ 1 ≤ 75) by decide) rfl)
        have t_21 : (M10.2.1 1 10).toInt = (N.2.1 1 10).toInt := congrArg Int32.toInt c_20
        have c_22 : M10.2.1 1 11 = (N.2.1 1 11) := (F_n F7 (show ¬ ((1 = 67 ∨ 1 = 72) ∧ 11 = 5 ∨ 68 ≤ 1 ∧ 1 ≤ 70 ∨ 73 ≤ 1 ∧ 1 ≤ 75) by decide) rfl)
        have t_23 : (M10.2.1 1 11).toInt = (N.2.1 1 11).toInt := congrArg Int32.toInt c_22
        exact ih M10 (u1) (u2) (u3) x4 x5 v12 hG8 F11 (by (first | (clear g10 g11 g12 h4; omega) | (clear g10 g11 g12; omega) | omega)) (by (first | (clear g10 g11 g12 h4; omega) | (clear g10 g11 g12; omega) | omega)) (by (first | (clear g10 g11 g12 h4; omega) | (clear g10 g11 g12; omega) | omega)) (by (first | (clear g10 g11 g12 h4; omega) | (clear g10 g11 g12; omega) | omega)) (by (first | (clear g10 g11 g12 h4; omega) | (clear g10 g11 g12; omega) | omega)) (by (first | (clear g10 g11 g12 h4; omega) | (clear g10 g11 g12; omega) | omega)) p_9 j_14 j_15 (by (first | (clear g10 g11 g12 h4; omega) | (clear g10 g11 g12; omega) | omega)) (fun z => (g11 (by (first | (clear g10 g11 g12 h4; omega) | (clear g10 g11 g12; omega) | omega))).trans (q_v rfl (by (first | (clear g10 g11 g12 h4; omega) | (clear g10 g11 g12; omega) | omega)) (by (first | (clear g10 g11 g12 h4; omega) | (clear g10 g11 g12; omega) | omega)))) (fun z => inl_e (by (first | (clear g10 g11 g12 h4; omega) | (clear g10 g11 g12; omega) | omega)) (by (first | (clear g10 g11 g12 h4; omega) | (clear g10 g11 g12; omega) | omega)) (g12 (by (first | (clear g10 g11 g12 h4; omega) | (clear g10 g11 g12; omega) | omega)))) (by (first | (clear g10 g11 g12 h4; omega) | (clear g10 g11 g12; omega) | omega))
set_option maxRecDepth 4000 in
set_option maxHeartbeats 0 in
theorem U_60_1 {X : mm_X} {d : Nat} {M : mm_M} {Q : Option Value → mm_M → Prop} {q : Nat} {p : Nat} {o : Int32} {t : Nat → Int} {nn : Int} {a : Int} {sg : x_S} {b : Int} (hX : g_X X) (hd : 3 + 4 * (8 - o.toInt) ≤ (d : Int)) (hq : q = 67 ∨ q = 72) (hp : p = 49 ∨ p = 58) (q1 : 0 ≤ o.toInt) (q2 : o.toInt ≤ 8) (q3 : o.toInt = b) (q4 : QI M) (q5 : CS M t nn) (q6 : (M.2.1 1 9).toInt = a) (q7 : PLs M p sg) (hr : RE_58 (8 - o.toInt)) (h : ∀ (r : Int32) (M1 : mm_M), g_G M1 → FR md_qt M M1 → (0 ≤ r.toInt) → (r.toInt ≤ 1) → QI M1 → CS M1 t nn → (r.toInt = 1 → (M.2.1 q 4).toInt < (M1.2.1 q 4).toInt) → ((r.toInt = 1 → x_qq t nn sg 0 b (M.2.1 q 4).toInt a = x_qq t nn sg 1 b (M1.2.1 q 4).toInt (M1.2.1 1 9).toInt)) → ((r.toInt = 0 → x_qq t nn sg 0 b (M.2.1 q 4).toInt a = Sum.inl ((M1.2.1 1 10).toInt, (M1.2.1 1 11).toInt))) → Q (some (.int r)) M1) : ∀ nn9 : Nat, (∀ (N : mm_M) (x4 : Int32) (u5 : Value) (u6 : Value), g_G N → FR md_qt M N → (0 ≤ x4.toInt) → (x4.toInt ≤ 41) → (x4.toInt ≤ (N.2.1 q 4).toInt) → (o.toInt = o.toInt) → (QI N) → (CS N t nn) → (PLs N p sg) → ((M.2.1 q 4).toInt ≤ (N.2.1 q 4).toInt) → (x_qq t nn sg 0 b (M.2.1 q 4).toInt a = x_qq t nn sg 0 b (N.2.1 q 4).toInt (N.2.1 1 9).toInt) → 41 - x4.toInt < (nn9 : Int) → mm_T X d 60 3 [.ref q, .ref 1, .ref p, .int o, .int x4, u5, u6] [] N Q) := by
  intro nn9
  induction nn9 with
  | zero =>
    intro N x4 u5 u6 hG F0 g1 g2 g3 g4 g5 g6 g7 g8 g9 hm
    have b_24 := g_b hG (a := q) (i := 4) (lo := 0) (hi := 40) (by rcases hq with rfl | rfl <;> rfl) (by rcases hq with rfl | rfl <;> rfl)
    exfalso; omega
  | succ nn9 ih =>
    intro N x4 u5 u6 hG F0 g1 g2 g3 g4 g5 g6 g7 g8 g9 hm
    have b_25 := g_b hG (a := q) (i := 4) (lo := 0) (hi := 40) (by rcases hq with rfl | rfl <;> rfl) (by rcases hq with rfl | rfl <;> rfl)
    have c_26 := CS_u g6 (a := (N.2.1 1 9).toInt) (by omega)
    unfold x_C at c_26
    have z_27 := x_kx_q (x_val t nn (N.2.1 1 9).toInt)
    refine to_i (pc := 3) rw_60_3 rfl (to_c (pc := 5) rw_60_5 (x := (40 : Int32)) rfl rfl (b_cgt (pc := 7) rw_60_7 (A := x4.toInt) (B := 40) rfl rfl (fun h28 => ?_) (fun h28 => ?_)))
    · refine to_an (pc := 35) rw_60_35 rfl (tt_gI (pc := 36) rw_60_36 (g_o hG rfl) (v := (N.2.1 1 7)) rfl (to_c (pc := 39) rw_60_39 (x := (40 : Int32)) rfl rfl (b_cne (pc := 41) rw_60_41 (A := (N.2.1 1 7).toInt) (B := 40) rfl rfl (fun h29 => ?_) (fun h29 => ?_))))
      · refine to_an (pc := 54) rw_60_54 rfl (to_an (pc := 55) rw_60_55 rfl (to_an (pc := 56) rw_60_56 rfl (s_v (pc := 57) rw_60_57 (by (first | (clear h29; omega) | omega)) (ls0 := [.ref q, .ref 1, .ref p, .null, .null, .null, .null]) rfl (Nat.le_of_ble_eq_true rfl) (Nat.le_of_ble_eq_true rfl) rfl (to_rc rfl rfl rfl (g_o hG (by rcases hq with rfl | rfl <;> rfl))) rfl (E_62 hX (by (first | (clear h29; omega) | omega)) hG hq hp g5 g6 (by (first | (clear h29; omega) | omega)) g7 (by (first | (clear h29; omega) | omega)) (by (first | (clear h29; omega) | omega)) (q := q) (p := p) (t := t) (nn := nn) (a := (N.2.1 1 9).toInt) (sg := sg) (b := b) (fun r30 M40 hG32 F31 p_33 p_34 p_35 p_36 p_37 p_38 p_39 => ?_)))))
        have F41 := FR.c F0 F31 tg_122
        have b_42 := g_b hG32 (a := q) (i := 4) (lo := 0) (hi := 40) (by rcases hq with rfl | rfl <;> rfl) (by rcases hq with rfl | rfl <;> rfl)
        rcases (show r30.toInt = 0 ∨ r30.toInt = 1 by (first | (clear h29; omega) | omega)) with h43 | h43
        · skip
          have p_44 := p_39 (by (first | (clear h29; omega) | omega))
          clear p_37 p_38 p_39
          have z_45 := ((g9).trans (q_v rfl (by (first | (clear h29; omega) | omega)) (by (first | (clear h29; omega) | omega)))).trans p_44
          refine to_is (pc := 60) rw_60_60 (ls2 := [.ref q, .ref 1, .ref p, .int o, .int x4, .int r30, u6]) rfl rfl (to_c (pc := 62) rw_60_62 (x := (0 : Int32)) rfl rfl (to_is (pc := 63) rw_60_63 (ls2 := [.ref q, .ref 1, .ref p, .int o, .int x4, .int r30, .int (0 : Int32)]) rfl rfl ?_))
          have k_46 : (0 : Int32).toInt = 0 := rfl
          have j_47 := (PLs_f (fun a i z => F_n F31 (show ¬ (a = 1 ∧ 5 ≤ i ∨ 3 ≤ a ∧ a ≤ 5 ∨ 67 ≤ a ∧ a ≤ 76) by (first | (clear h29; omega) | omega)) rfl) g7)
          exact (U_60_0 (q := q) (p := p) (o := o) (t := t) (nn := nn) (a := a) (sg := sg) (b := b) hX hd hq hp q1 q2 q3 q4 q5 q6 q7 hr h ((41 - (0 : Int32).toInt).toNat + 1)) M40 (.ref 1) (.ref p) (.int o) x4 r30 (0 : Int32) hG32 F41 (by (first | (clear h29; omega) | omega)) (by (first | (clear h29; omega) | omega)) (by (first | (clear h29; omega) | omega)) (by (first | (clear h29; omega) | omega)) (by (first | (clear h29; omega) | omega)) (by (first | (clear h29; omega) | omega)) p_35 p_36 j_47 (by (first | (clear h29; omega) | omega)) (fun z => by exfalso; omega) (fun _ => inl_e (by (first | (clear h29; omega) | omega)) (by (first | (clear h29; omega) | omega)) z_45) (by (first | (clear h29; omega) | omega))
        · skip
          have p_48 := p_37 (by (first | (clear h29; omega) | omega))
          have p_49 := p_38 (by (first | (clear h29; omega) | omega))
          clear p_37 p_38 p_39
          have z_50 := ((g9).trans (q_v rfl (by (first | (clear h29; omega) | omega)) (by (first | (clear h29; omega) | omega)))).trans p_49
          refine to_is (pc := 60) rw_60_60 (ls2 := [.ref q, .ref 1, .ref p, .int o, .int x4, .int r30, u6]) rfl rfl (to_c (pc := 62) rw_60_62 (x := (0 : Int32)) rfl rfl (to_is (pc := 63) rw_60_63 (ls2 := [.ref q, .ref 1, .ref p, .int o, .int x4, .int r30, .int (0 : Int32)]) rfl rfl ?_))
          have k_51 : (0 : Int32).toInt = 0 := rfl
          have j_52 := (PLs_f (fun a i z => F_n F31 (show ¬ (a = 1 ∧ 5 ≤ i ∨ 3 ≤ a ∧ a ≤ 5 ∨ 67 ≤ a ∧ a ≤ 76) by (first | (clear h29; omega) | omega)) rfl) g7)
          exact (U_60_0 (q := q) (p := p) (o := o) (t := t) (nn := nn) (a := a) (sg := sg) (b := b) hX hd hq hp q1 q2 q3 q4 q5 q6 q7 hr h ((41 - (0 : Int32).toInt).toNat + 1)) M40 (.ref 1) (.ref p) (.int o) x4 r30 (0 : Int32) hG32 F41 (by (first | (clear h29; omega) | omega)) (by (first | (clear h29; omega) | omega)) (by (first | (clear h29; omega) | omega)) (by (first | (clear h29; omega) | omega)) (by (first | (clear h29; omega) | omega)) (by (first | (clear h29; omega) | omega)) p_35 p_36 j_52 (by (first | (clear h29; omega) | omega)) (fun _ => (z_50.trans (q_v rfl (show (M40.2.1 q 4).toInt = (M40.2.1 q 4).toInt by (first | (clear h29; omega) | omega)) (show (M40.2.1 1 9).toInt = (M40.2.1 1 9).toInt by (first | (clear h29; omega) | omega))))) (fun z => by exfalso; omega) (by (first | (clear h29; omega) | omega))
      · refine to_an (pc := 44) rw_60_44 rfl (to_an (pc := 45) rw_60_45 rfl (to_an (pc := 46) rw_60_46 rfl (to_in (pc := 47) rw_60_47 rfl (s_v (pc := 48) rw_60_48 (by omega) (ls0 := [.ref q, .ref 1, .ref p, .int o]) rfl (Nat.le_of_ble_eq_true rfl) (Nat.le_of_ble_eq_true rfl) rfl (to_rc rfl rfl rfl (g_o hG (by rcases hq with rfl | rfl <;> rfl))) rfl (E_61 hX (by omega) hG hq hp (by omega) (by omega) (by omega) g5 g6 (by omega) g7 (by omega) hr (q := q) (p := p) (o := o) (t := t) (nn := nn) (a := (N.2.1 1 9).toInt) (sg := sg) (b := b) (fun r53 M63 hG55 F54 p_56 p_57 p_58 p_59 p_60 p_61 p_62 => ?_))))))
        have F64 := FR.c F0 F54 tg_122
        have b_65 := g_b hG55 (a := q) (i := 4) (lo := 0) (hi := 40) (by rcases hq with rfl | rfl <;> rfl) (by rcases hq with rfl | rfl <;> rfl)
        rcases (show r53.toInt = 0 ∨ r53.toInt = 1 by omega) with h66 | h66
        · skip
          have p_67 := p_62 (by omega)
          clear p_60 p_61 p_62
          have z_68 := ((g9).trans (q_v rfl (by omega) (by omega))).trans p_67
          refine to_go (pc := 51) rw_60_51 (to_is (pc := 60) rw_60_60 (ls2 := [.ref q, .ref 1, .ref p, .int o, .int x4, .int r53, u6]) rfl rfl (to_c (pc := 62) rw_60_62 (x := (0 : Int32)) rfl rfl (to_is (pc := 63) rw_60_63 (ls2 := [.ref q, .ref 1, .ref p, .int o, .int x4, .int r53, .int (0 : Int32)]) rfl rfl ?_)))
          have k_69 : (0 : Int32).toInt = 0 := rfl
          have j_70 := (PLs_f (fun a i z => F_n F54 (show ¬ (a = 1 ∧ 5 ≤ i ∨ 3 ≤ a ∧ a ≤ 5 ∨ 67 ≤ a ∧ a ≤ 76) by omega) rfl) g7)
          exact (U_60_0 (q := q) (p := p) (o := o) (t := t) (nn := nn) (a := a) (sg := sg) (b := b) hX hd hq hp q1 q2 q3 q4 q5 q6 q7 hr h ((41 - (0 : Int32).toInt).toNat + 1)) M63 (.ref 1) (.ref p) (.int o) x4 r53 (0 : Int32) hG55 F64 (by omega) (by omega) (by omega) (by omega) (by omega) (by omega) p_58 p_59 j_70 (by omega) (fun z => by exfalso; omega) (fun _ => inl_e (by omega) (by omega) z_68) (by omega)
        · skip
          have p_71 := p_60 (by omega)
          have p_72 := p_61 (by omega)
          clear p_60 p_61 p_62
          have z_73 := ((g9).trans (q_v rfl (by omega) (by omega))).trans p_72
          refine to_go (pc := 51) rw_60_51 (to_is (pc := 60) rw_60_60 (ls2 := [.ref q, .ref 1, .ref p, .int o, .int x4, .int r53, u6]) rfl rfl (to_c (pc := 62) rw_60_62 (x := (0 : Int32)) rfl rfl (to_is (pc := 63) rw_60_63 (ls2 := [.ref q, .ref 1, .ref p, .int o, .int x4, .int r53, .int (0 : Int32)]) rfl rfl ?_)))
          have k_74 : (0 : Int32).toInt = 0 := rfl
          have j_75 := (PLs_f (fun a i z => F_n F54 (show ¬ (a = 1 ∧ 5 ≤ i ∨ 3 ≤ a ∧ a ≤ 5 ∨ 67 ≤ a ∧ a ≤ 76) by omega) rfl) g7)
          exact (U_60_0 (q := q) (p := p) (o := o) (t := t) (nn := nn) (a := a) (sg := sg) (b := b) hX hd hq hp q1 q2 q3 q4 q5 q6 q7 hr h ((41 - (0 : Int32).toInt).toNat + 1)) M63 (.ref 1) (.ref p) (.int o) x4 r53 (0 : Int32) hG55 F64 (by omega) (by omega) (by omega) (by omega) (by omega) (by omega) p_58 p_59 j_75 (by omega) (fun _ => (z_73.trans (q_v rfl (show (M63.2.1 q 4).toInt = (M63.2.1 q 4).toInt by omega) (show (M63.2.1 1 9).toInt = (M63.2.1 1 9).toInt by omega)))) (fun z => by exfalso; omega) (by omega)
    · refine to_an (pc := 10) rw_60_10 rfl (to_c (pc := 11) rw_60_11 (x := (486146048 : Int32)) rfl rfl (s_v (pc := 13) rw_60_13 (by omega) (ls0 := [.ref 1, .int (486146048 : Int32)]) rfl (Nat.le_of_ble_eq_true rfl) (Nat.le_of_ble_eq_true rfl) rfl (to_rc rfl rfl rfl (g_o hG rfl)) rfl ?_))
      have k_76 : (486146048 : Int32).toInt = 486146048 := rfl
      refine E_86 hX (by omega) hG g6 (by omega) (x := (486146048 : Int32)) (t := t) (nn := nn) (a := (N.2.1 1 9).toInt) (fun r77 M84 hG79 F78 p_80 p_81 p_82 p_83 => ?_)
      have F85 := FR.c F0 F78 tg_115
      rcases (show r77.toInt = 0 ∨ r77.toInt = 1 by (first | (clear p_82 p_83; omega) | omega)) with h86 | h86
      · skip
        have p_87 := p_83 (by (first | (clear p_82 p_83; omega) | omega))
        clear p_82 p_83
        refine b_ieq_t (pc := 16) rw_60_16 (A := r77.toInt) rfl (by omega) (to_an (pc := 35) rw_60_35 rfl ?_)
        have c_88 : M84.2.1 1 7 = (N.2.1 1 7) := (F_n F78 (show ¬ (1 < 0) by decide) rfl)
        refine tt_gI (pc := 36) rw_60_36 (g_o hG79 rfl) (v := (N.2.1 1 7)) c_88 (to_c (pc := 39) rw_60_39 (x := (40 : Int32)) rfl rfl (b_cne (pc := 41) rw_60_41 (A := (N.2.1 1 7).toInt) (B := 40) rfl rfl (fun h89 => ?_) (fun h89 => ?_)))
        · refine to_an (pc := 54) rw_60_54 rfl (to_an (pc := 55) rw_60_55 rfl (to_an (pc := 56) rw_60_56 rfl (s_v (pc := 57) rw_60_57 (by (first | (clear h89; omega) | omega)) (ls0 := [.ref q, .ref 1, .ref p, .null, .null, .null, .null]) rfl (Nat.le_of_ble_eq_true rfl) (Nat.le_of_ble_eq_true rfl) rfl (to_rc rfl rfl rfl (g_o hG79 (by rcases hq with rfl | rfl <;> rfl))) rfl ?_)))
          have c_90 : M84.2.1 q 4 = (N.2.1 q 4) := (F_n F78 (show ¬ (q < 0) by (first | (clear h89; omega) | omega)) rfl)
          have t_91 : (M84.2.1 q 4).toInt = (N.2.1 q 4).toInt := congrArg Int32.toInt c_90
          have j_92 := (QI_f (tg_100 F78) g5)
          have j_93 := (CS_f (tg_28 F78) g6)
          have c_94 : M84.2.1 1 9 = (N.2.1 1 9) := (F_n F78 (show ¬ (1 < 0) by decide) rfl)
          have t_95 : (M84.2.1 1 9).toInt = (N.2.1 1 9).toInt := congrArg Int32.toInt c_94
          have j_96 := (PLs_f (fun a i z => F_n F78 (show ¬ (a < 0) by (first | (clear h89; omega) | omega)) rfl) g7)
          refine E_62 hX (by (first | (clear h89; omega) | omega)) hG79 hq hp j_92 j_93 (by (first | (clear h89; omega) | omega)) j_96 (by (first | (clear h89; omega) | omega)) (by (first | (clear h89; omega) | omega)) (q := q) (p := p) (t := t) (nn := nn) (a := (N.2.1 1 9).toInt) (sg := sg) (b := b) (fun r97 M107 hG99 F98 p_100 p_101 p_102 p_103 p_104 p_105 p_106 => ?_)
          have F108 := FR.c F85 F98 tg_122
          have b_109 := g_b hG99 (a := q) (i := 4) (lo := 0) (hi := 40) (by rcases hq with rfl | rfl <;> rfl) (by rcases hq with rfl | rfl <;> rfl)
          rcases (show r97.toInt = 0 ∨ r97.toInt = 1 by (first | (clear h89 p_104 p_105 p_106; omega) | (clear p_104 p_105 p_106; omega) | omega)) with h110 | h110
          · skip
            have p_111 := p_106 (by (first | (clear h89 p_104 p_105 p_106; omega) | (clear p_104 p_105 p_106; omega) | omega))
            clear p_104 p_105 p_106
            have z_112 := ((g9).trans (q_v rfl (by (first | (clear h89; omega) | omega)) (by (first | (clear h89; omega) | omega)))).trans p_111
            refine to_is (pc := 60) rw_60_60 (ls2 := [.ref q, .ref 1, .ref p, .int o, .int x4, .int r97, u6]) rfl rfl (to_c (pc := 62) rw_60_62 (x := (0 : Int32)) rfl rfl (to_is (pc := 63) rw_60_63 (ls2 := [.ref q, .ref 1, .ref p, .int o, .int x4, .int r97, .int (0 : Int32)]) rfl rfl ?_))
            have k_113 : (0 : Int32).toInt = 0 := rfl
            have j_114 := (PLs_f (fun a i z => F_n F98 (show ¬ (a = 1 ∧ 5 ≤ i ∨ 3 ≤ a ∧ a ≤ 5 ∨ 67 ≤ a ∧ a ≤ 76) by (first | (clear h89; omega) | omega)) rfl) j_96)
            exact (U_60_0 (q := q) (p := p) (o := o) (t := t) (nn := nn) (a := a) (sg := sg) (b := b) hX hd hq hp q1 q2 q3 q4 q5 q6 q7 hr h ((41 - (0 : Int32).toInt).toNat + 1)) M107 (.ref 1) (.ref p) (.int o) x4 r97 (0 : Int32) hG99 F108 (by (first | (clear h89; omega) | omega)) (by (first | (clear h89; omega) | omega)) (by (first | (clear h89; omega) | omega)) (by (first | (clear h89; omega) | omega)) (by (first | (clear h89; omega) | omega)) (by (first | (clear h89; omega) | omega)) p_102 p_103 j_114 (by (first | (clear h89; omega) | omega)) (fun z => by exfalso; omega) (fun _ => inl_e (by (first | (clear h89; omega) | omega)) (by (first | (clear h89; omega) | omega)) z_112) (by (first | (clear h89; omega) | omega))
          · skip
            have p_115 := p_104 (by (first | (clear h89 p_104 p_105 p_106; omega) | (clear p_104 p_105 p_106; omega) | omega))
            have p_116 := p_105 (by (first | (clear h89 p_104 p_105 p_106; omega) | (clear p_104 p_105 p_106; omega) | omega))
            clear p_104 p_105 p_106
            have z_117 := ((g9).trans (q_v rfl (by (first | (clear h89; omega) | omega)) (by (first | (clear h89; omega) | omega)))).trans p_116
            refine to_is (pc := 60) rw_60_60 (ls2 := [.ref q, .ref 1, .ref p, .int o, .int x4, .int r97, u6]) rfl rfl (to_c (pc := 62) rw_60_62 (x := (0 : Int32)) rfl rfl (to_is (pc := 63) rw_60_63 (ls2 := [.ref q, .ref 1, .ref p, .int o, .int x4, .int r97, .int (0 : Int32)]) rfl rfl ?_))
            have k_118 : (0 : Int32).toInt = 0 := rfl
            have j_119 := (PLs_f (fun a i z => F_n F98 (show ¬ (a = 1 ∧ 5 ≤ i ∨ 3 ≤ a ∧ a ≤ 5 ∨ 67 ≤ a ∧ a ≤ 76) by (first | (clear h89; omega) | omega)) rfl) j_96)
            exact (U_60_0 (q := q) (p := p) (o := o) (t := t) (nn := nn) (a := a) (sg := sg) (b := b) hX hd hq hp q1 q2 q3 q4 q5 q6 q7 hr h ((41 - (0 : Int32).toInt).toNat + 1)) M107 (.ref 1) (.ref p) (.int o) x4 r97 (0 : Int32) hG99 F108 (by (first | (clear h89; omega) | omega)) (by (first | (clear h89; omega) | omega)) (by (first | (clear h89; omega) | omega)) (by (first | (clear h89; omega) | omega)) (by (first | (clear h89; omega) | omega)) (by (first | (clear h89; omega) | omega)) p_102 p_103 j_119 (by (first | (clear h89; omega) | omega)) (fun _ => (z_117.trans (q_v rfl (show (M107.2.1 q 4).toInt = (M107.2.1 q 4).toInt by (first | (clear h89; omega) | omega)) (show (M107.2.1 1 9).toInt = (M107.2.1 1 9).toInt by (first | (clear h89; omega) | omega))))) (fun z => by exfalso; omega) (by (first | (clear h89; omega) | omega))
        · refine to_an (pc := 44) rw_60_44 rfl (to_an (pc := 45) rw_60_45 rfl (to_an (pc := 46) rw_60_46 rfl (to_in (pc := 47) rw_60_47 rfl (s_v (pc := 48) rw_60_48 (by omega) (ls0 := [.ref q, .ref 1, .ref p, .int o]) rfl (Nat.le_of_ble_eq_true rfl) (Nat.le_of_ble_eq_true rfl) rfl (to_rc rfl rfl rfl (g_o hG79 (by rcases hq with rfl | rfl <;> rfl))) rfl ?_))))
          have c_120 : M84.2.1 q 4 = (N.2.1 q 4) := (F_n F78 (show ¬ (q < 0) by omega) rfl)
          have t_121 : (M84.2.1 q 4).toInt = (N.2.1 q 4).toInt := congrArg Int32.toInt c_120
          have j_122 := (QI_f (tg_100 F78) g5)
          have j_123 := (CS_f (tg_28 F78) g6)
          have c_124 : M84.2.1 1 9 = (N.2.1 1 9) := (F_n F78 (show ¬ (1 < 0) by decide) rfl)
          have t_125 : (M84.2.1 1 9).toInt = (N.2.1 1 9).toInt := congrArg Int32.toInt c_124
          have j_126 := (PLs_f (fun a i z => F_n F78 (show ¬ (a < 0) by omega) rfl) g7)
          refine E_61 hX (by omega) hG79 hq hp (by omega) (by omega) (by omega) j_122 j_123 (by omega) j_126 (by omega) hr (q := q) (p := p) (o := o) (t := t) (nn := nn) (a := (N.2.1 1 9).toInt) (sg := sg) (b := b) (fun r127 M137 hG129 F128 p_130 p_131 p_132 p_133 p_134 p_135 p_136 => ?_)
          have F138 := FR.c F85 F128 tg_122
          have b_139 := g_b hG129 (a := q) (i := 4) (lo := 0) (hi := 40) (by rcases hq with rfl | rfl <;> rfl) (by rcases hq with rfl | rfl <;> rfl)
          rcases (show r127.toInt = 0 ∨ r127.toInt = 1 by (first | (clear p_134 p_135 p_136; omega) | omega)) with h140 | h140
          · skip
            have p_141 := p_136 (by (first | (clear p_134 p_135 p_136; omega) | omega))
            clear p_134 p_135 p_136
            have z_142 := ((g9).trans (q_v rfl (by omega) (by omega))).trans p_141
            refine to_go (pc := 51) rw_60_51 (to_is (pc := 60) rw_60_60 (ls2 := [.ref q, .ref 1, .ref p, .int o, .int x4, .int r127, u6]) rfl rfl (to_c (pc := 62) rw_60_62 (x := (0 : Int32)) rfl rfl (to_is (pc := 63) rw_60_63 (ls2 := [.ref q, .ref 1, .ref p, .int o, .int x4, .int r127, .int (0 : Int32)]) rfl rfl ?_)))
            have k_143 : (0 : Int32).toInt = 0 := rfl
            have j_144 := (PLs_f (fun a i z => F_n F128 (show ¬ (a = 1 ∧ 5 ≤ i ∨ 3 ≤ a ∧ a ≤ 5 ∨ 67 ≤ a ∧ a ≤ 76) by omega) rfl) j_126)
            exact (U_60_0 (q := q) (p := p) (o := o) (t := t) (nn := nn) (a := a) (sg := sg) (b := b) hX hd hq hp q1 q2 q3 q4 q5 q6 q7 hr h ((41 - (0 : Int32).toInt).toNat + 1)) M137 (.ref 1) (.ref p) (.int o) x4 r127 (0 : Int32) hG129 F138 (by omega) (by omega) (by omega) (by omega) (by omega) (by omega) p_132 p_133 j_144 (by omega) (fun z => by exfalso; omega) (fun _ => inl_e (by omega) (by omega) z_142) (by omega)
          · skip
            have p_145 := p_134 (by (first | (clear p_134 p_135 p_136; omega) | omega))
            have p_146 := p_135 (by (first | (clear p_134 p_135 p_136; omega) | omega))
            clear p_134 p_135 p_136
            have z_147 := ((g9).trans (q_v rfl (by omega) (by omega))).trans p_146
            refine to_go (pc := 51) rw_60_51 (to_is (pc := 60) rw_60_60 (ls2 := [.ref q, .ref 1, .ref p, .int o, .int x4, .int r127, u6]) rfl rfl (to_c (pc := 62) rw_60_62 (x := (0 : Int32)) rfl rfl (to_is (pc := 63) rw_60_63 (ls2 := [.ref q, .ref 1, .ref p, .int o, .int x4, .int r127, .int (0 : Int32)]) rfl rfl ?_)))
            have k_148 : (0 : Int32).toInt = 0 := rfl
            have j_149 := (PLs_f (fun a i z => F_n F128 (show ¬ (a = 1 ∧ 5 ≤ i ∨ 3 ≤ a ∧ a ≤ 5 ∨ 67 ≤ a ∧ a ≤ 76) by omega) rfl) j_126)
            exact (U_60_0 (q := q) (p := p) (o := o) (t := t) (nn := nn) (a := a) (sg := sg) (b := b) hX hd hq hp q1 q2 q3 q4 q5 q6 q7 hr h ((41 - (0 : Int32).toInt).toNat + 1)) M137 (.ref 1) (.ref p) (.int o) x4 r127 (0 : Int32) hG129 F138 (by omega) (by omega) (by omega) (by omega) (by omega) (by omega) p_132 p_133 j_149 (by omega) (fun _ => (z_147.trans (q_v rfl (show (M137.2.1 q 4).toInt = (M137.2.1 q 4).toInt by omega) (show (M137.2.1 1 9).toInt = (M137.2.1 1 9).toInt by omega)))) (fun z => by exfalso; omega) (by omega)
      · skip
        have p_150 := p_82 (by (first | (clear p_82 p_83; omega) | omega))
        clear p_82 p_83
        refine b_ieq_f (pc := 16) rw_60_16 (A := r77.toInt) rfl (by omega) (to_an (pc := 19) rw_60_19 rfl (to_an (pc := 20) rw_60_20 rfl (s_v (pc := 21) rw_60_21 (by omega) (ls0 := [.ref q, .ref 1]) rfl (Nat.le_of_ble_eq_true rfl) (Nat.le_of_ble_eq_true rfl) rfl (to_rc rfl rfl rfl (g_o hG79 (by rcases hq with rfl | rfl <;> rfl))) rfl ?_)))
        have c_151 : M84.2.1 q 4 = (N.2.1 q 4) := (F_n F78 (show ¬ (q < 0) by omega) rfl)
        have t_152 : (M84.2.1 q 4).toInt = (N.2.1 q 4).toInt := congrArg Int32.toInt c_151
        have j_153 := (CS_f (tg_28 F78) g6)
        have c_154 : M84.2.1 1 9 = (N.2.1 1 9) := (F_n F78 (show ¬ (1 < 0) by decide) rfl)
        have t_155 : (M84.2.1 1 9).toInt = (N.2.1 1 9).toInt := congrArg Int32.toInt c_154
        refine E_63 hX (by omega) hG79 hq j_153 (by omega) (q := q) (t := t) (nn := nn) (a := (N.2.1 1 9).toInt) (fun r156 M164 hG158 F157 p_159 p_160 p_161 p_162 p_163 => ?_)
        have F165 := FR.c F85 F157 tg_114
        have b_166 := g_b hG158 (a := q) (i := 4) (lo := 0) (hi := 40) (by rcases hq with rfl | rfl <;> rfl) (by rcases hq with rfl | rfl <;> rfl)
        rcases (show r156.toInt = 0 ∨ r156.toInt = 1 by (first | (clear p_162 p_163; omega) | omega)) with h167 | h167
        · skip
          have p_168 := p_163 (by (first | (clear p_162 p_163; omega) | omega))
          clear p_162 p_163
          have z_169 := g9.trans (q_nox (by omega) (by omega) (by omega) (by omega))
          refine b_ine_f (pc := 24) rw_60_24 (A := r156.toInt) rfl (by omega) (to_c (pc := 27) rw_60_27 (x := (0 : Int32)) rfl rfl (s_r1 (pc := 28) rw_60_28 (A := 0) rfl (by decide) ?_))
          have k_170 : (0 : Int32).toInt = 0 := rfl
          have j_171 := (QI_f (tg_110 F157) (QI_f (tg_100 F78) g5))
          exact h (0 : Int32) M164 hG158 F165 (by decide) (by decide) j_171 p_161 (by omega) (fun z => by exfalso; omega) (fun _ => inl_e (by omega) (by omega) z_169)
        · skip
          have p_172 := p_162 (by (first | (clear p_162 p_163; omega) | omega))
          clear p_162 p_163
          have z_173 := g9.trans (q_no (by omega) (by omega) (by omega) (by omega))
          refine b_ine_t (pc := 24) rw_60_24 (A := r156.toInt) rfl (by omega) (s_inc (pc := 29) rw_60_29 (ls2 := fun v => [.ref q, .ref 1, .ref p, .int o, .int v, u5, u6]) rfl rfl (fun _ => rfl) (A := x4.toInt) (B := 1) rfl rfl (by omega) (fun v174 e175 => to_go (pc := 32) rw_60_32 ?_))
          have j_176 := (QI_f (tg_110 F157) (QI_f (tg_100 F78) g5))
          have j_177 := (PLs_f (fun a i z => F_n F157 (show ¬ (a = 1 ∧ 6 ≤ i ∧ i ≤ 11 ∨ (a = 67 ∨ a = 72) ∧ i = 4) by omega) rfl) (PLs_f (fun a i z => F_n F78 (show ¬ (a < 0) by omega) rfl) g7))
          exact ih M164 v174 (u5) (u6) hG158 F165 (by omega) (by omega) (by omega) (by omega) j_176 p_161 j_177 (by omega) (z_173.trans (q_v rfl (show ((N.2.1 q 4).toInt + 1) = (M164.2.1 q 4).toInt by omega) (show (x_ns t nn (N.2.1 1 9).toInt) = (M164.2.1 1 9).toInt by omega))) (by omega)
set_option maxRecDepth 4000 in
set_option maxHeartbeats 0 in
theorem E_60 {X : mm_X} {d : Nat} {M : mm_M} {Q : Option Value → mm_M → Prop} {q : Nat} {p : Nat} {o : Int32} {t : Nat → Int} {nn : Int} {a : Int} {sg : x_S} {b : Int} (hX : g_X X) (hd : 3 + 4 * (8 - o.toInt) ≤ (d : Int)) (hG : g_G M) (hq : q = 67 ∨ q = 72) (hp : p = 49 ∨ p = 58) (q1 : 0 ≤ o.toInt) (q2 : o.toInt ≤ 8) (q3 : o.toInt = b) (q4 : QI M) (q5 : CS M t nn) (q6 : (M.2.1 1 9).toInt = a) (q7 : PLs M p sg) (hr : RE_58 (8 - o.toInt)) (h : ∀ (r : Int32) (M1 : mm_M), g_G M1 → FR md_qt M M1 → (0 ≤ r.toInt) → (r.toInt ≤ 1) → QI M1 → CS M1 t nn → (r.toInt = 1 → (M.2.1 q 4).toInt < (M1.2.1 q 4).toInt) → ((r.toInt = 1 → x_qq t nn sg 0 b (M.2.1 q 4).toInt a = x_qq t nn sg 1 b (M1.2.1 q 4).toInt (M1.2.1 1 9).toInt)) → ((r.toInt = 0 → x_qq t nn sg 0 b (M.2.1 q 4).toInt a = Sum.inl ((M1.2.1 1 10).toInt, (M1.2.1 1 11).toInt))) → Q (some (.int r)) M1) : mm_T X d 60 0 [.ref q, .ref 1, .ref p, .int o, .null, .null, .null] [] M Q := by
  have F0 : FR md_qt M M := FR.rf
  have b_178 := g_b hG (a := q) (i := 4) (lo := 0) (hi := 40) (by rcases hq with rfl | rfl <;> rfl) (by rcases hq with rfl | rfl <;> rfl)
  refine to_c (pc := 0) rw_60_0 (x := (0 : Int32)) rfl rfl (to_is (pc := 1) rw_60_1 (ls2 := [.ref q, .ref 1, .ref p, .int o, .int (0 : Int32), .null, .null]) rfl rfl ?_)
  have k_179 : (0 : Int32).toInt = 0 := rfl
  exact (U_60_1 (q := q) (p := p) (o := o) (t := t) (nn := nn) (a := a) (sg := sg) (b := b) hX hd hq hp q1 q2 q3 q4 q5 q6 q7 hr h ((41 - (0 : Int32).toInt).toNat + 1)) M (0 : Int32) (.null) (.null) hG F0 (by omega) (by omega) (by omega) (by omega) q4 q5 q7 (by omega) (q_v rfl rfl (by omega)) (by omega)
set_option maxRecDepth 4000 in
set_option maxHeartbeats 0 in
theorem U_59_0 {X : mm_X} {d : Nat} {M : mm_M} {Q : Option Value → mm_M → Prop} {q : Nat} {p : Nat} {o : Int32} {t : Nat → Int} {nn : Int} {a : Int} {sg : x_S} {b : Int} (hX : g_X X) (hd : 4 + 4 * (8 - o.toInt) ≤ (d : Int)) (hq : q = 67 ∨ q = 72) (hp : p = 49 ∨ p = 58) (q1 : 0 ≤ o.toInt) (q2 : o.toInt ≤ 8) (q3 : o.toInt = b) (q4 : QI M) (q5 : CS M t nn) (q6 : (M.2.1 1 9).toInt = a) (q7 : PLs M p sg) (hr : RE_58 (8 - o.toInt)) (h : ∀ (r : Int32) (M1 : mm_M), g_G M1 → FR md_qt M M1 → (0 ≤ r.toInt) → (r.toInt ≤ 1) → QI M1 → CS M1 t nn → (r.toInt = 1 → (M.2.1 q 4).toInt < (M1.2.1 q 4).toInt) → ((r.toInt = 1 → x_qq t nn sg 0 b (M.2.1 q 4).toInt a = x_qq t nn sg 1 b (M1.2.1 q 4).toInt (M1.2.1 1 9).toInt)) → ((r.toInt = 0 → x_qq t nn sg 0 b (M.2.1 q 4).toInt a = Sum.inl ((M1.2.1 1 10).toInt, (M1.2.1 1 11).toInt))) → ((r.toInt = 1 → ¬ (x_kind t nn (M1.2.1 1 9).toInt = 1 ∧ x_kx (x_val t nn (M1.2.1 1 9).toInt) = 12))) → Q (some (.int r)) M1) : ∀ nn9 : Nat, (∀ (N : mm_M) (x4 : Int32), g_G N → FR md_qt M N → (0 ≤ x4.toInt) → (x4.toInt ≤ 41) → (x4.toInt ≤ (N.2.1 q 4).toInt) → (o.toInt = o.toInt) → (QI N) → (CS N t nn) → (PLs N p sg) → ((M.2.1 q 4).toInt < (N.2.1 q 4).toInt) → (x_qq t nn sg 0 b (M.2.1 q 4).toInt a = x_qq t nn sg 1 b (N.2.1 q 4).toInt (N.2.1 1 9).toInt) → 41 - x4.toInt < (nn9 : Int) → mm_T X d 59 15 [.ref q, .ref 1, .ref p, .int o, .int x4] [] N Q) := by
  intro nn9
  induction nn9 with
  | zero =>
    intro N x4 hG F0 g1 g2 g3 g4 g5 g6 g7 g8 g9 hm
    have b_1 := g_b hG (a := q) (i := 4) (lo := 0) (hi := 40) (by rcases hq with rfl | rfl <;> rfl) (by rcases hq with rfl | rfl <;> rfl)
    exfalso; omega
  | succ nn9 ih =>
    intro N x4 hG F0 g1 g2 g3 g4 g5 g6 g7 g8 g9 hm
    have b_2 := g_b hG (a := q) (i := 4) (lo := 0) (hi := 40) (by rcases hq with rfl | rfl <;> rfl) (by rcases hq with rfl | rfl <;> rfl)
    have c_3 := CS_u g6 (a := (N.2.1 1 9).toInt) (by omega)
    unfold x_C at c_3
    have z_4 := x_kx_q (x_val t nn (N.2.1 1 9).toInt)
    refine to_i (pc := 15) rw_59_15 rfl (to_c (pc := 17) rw_59_17 (x := (40 : Int32)) rfl rfl (b_cgt (pc := 19) rw_59_19 (A := x4.toInt) (B := 40) rfl rfl (fun h5 => ?_) (fun h5 => ?_)))
    · refine to_c (pc := 64) rw_59_64 (x := (1 : Int32)) rfl rfl (s_r1 (pc := 65) rw_59_65 (A := 1) rfl (by decide) ?_)
      have k_6 : (1 : Int32).toInt = 1 := rfl
      exact h (1 : Int32) N hG F0 (by decide) (by decide) g5 g6 (by omega) (fun _ => (g9.trans (q_v rfl (show (N.2.1 q 4).toInt = (N.2.1 q 4).toInt by omega) (show (N.2.1 1 9).toInt = (N.2.1 1 9).toInt by omega)))) (fun z => by exfalso; omega) (fun _ => by omega)
    · refine to_an (pc := 22) rw_59_22 rfl (to_c (pc := 23) rw_59_23 (x := (48365568 : Int32)) rfl rfl (s_v (pc := 25) rw_59_25 (by omega) (ls0 := [.ref 1, .int (48365568 : Int32)]) rfl (Nat.le_of_ble_eq_true rfl) (Nat.le_of_ble_eq_true rfl) rfl (to_rc rfl rfl rfl (g_o hG rfl)) rfl ?_))
      have k_7 : (48365568 : Int32).toInt = 48365568 := rfl
      refine E_86 hX (by omega) hG g6 (by omega) (x := (48365568 : Int32)) (t := t) (nn := nn) (a := (N.2.1 1 9).toInt) (fun r8 M15 hG10 F9 p_11 p_12 p_13 p_14 => ?_)
      have F16 := FR.c F0 F9 tg_115
      rcases (show r8.toInt = 0 ∨ r8.toInt = 1 by (first | (clear p_13 p_14; omega) | omega)) with h17 | h17
      · skip
        have p_18 := p_14 (by (first | (clear p_13 p_14; omega) | omega))
        clear p_13 p_14
        refine b_ieq_t (pc := 28) rw_59_28 (A := r8.toInt) rfl (by omega) (to_c (pc := 64) rw_59_64 (x := (1 : Int32)) rfl rfl (s_r1 (pc := 65) rw_59_65 (A := 1) rfl (by decide) ?_))
        have k_19 : (1 : Int32).toInt = 1 := rfl
        have j_20 := (QI_f (tg_100 F9) g5)
        have j_21 := (CS_f (tg_28 F9) g6)
        have c_22 : M15.2.1 q 4 = (N.2.1 q 4) := (F_n F9 (show ¬ (q < 0) by omega) rfl)
        have t_23 : (M15.2.1 q 4).toInt = (N.2.1 q 4).toInt := congrArg Int32.toInt c_22
        have c_24 : M15.2.1 1 9 = (N.2.1 1 9) := (F_n F9 (show ¬ (1 < 0) by decide) rfl)
        have t_25 : (M15.2.1 1 9).toInt = (N.2.1 1 9).toInt := congrArg Int32.toInt c_24
        exact h (1 : Int32) M15 hG10 F16 (by decide) (by decide) j_20 j_21 (by omega) (fun _ => (g9.trans (q_v rfl (show (N.2.1 q 4).toInt = (M15.2.1 q 4).toInt by omega) (show (N.2.1 1 9).toInt = (M15.2.1 1 9).toInt by omega)))) (fun z => by exfalso; omega) (fun _ => by rw [show (M15.2.1 1 9).toInt = (N.2.1 1 9).toInt by omega]; omega)
      · skip
        have p_26 := p_13 (by (first | (clear p_13 p_14; omega) | omega))
        clear p_13 p_14
        refine b_ieq_f (pc := 28) rw_59_28 (A := r8.toInt) rfl (by omega) (to_an (pc := 31) rw_59_31 rfl (to_an (pc := 32) rw_59_32 rfl (s_v (pc := 33) rw_59_33 (by omega) (ls0 := [.ref q, .ref 1]) rfl (Nat.le_of_ble_eq_true rfl) (Nat.le_of_ble_eq_true rfl) rfl (to_rc rfl rfl rfl (g_o hG10 (by rcases hq with rfl | rfl <;> rfl))) rfl ?_)))
        have c_27 : M15.2.1 q 4 = (N.2.1 q 4) := (F_n F9 (show ¬ (q < 0) by omega) rfl)
        have t_28 : (M15.2.1 q 4).toInt = (N.2.1 q 4).toInt := congrArg Int32.toInt c_27
        have j_29 := (CS_f (tg_28 F9) g6)
        have c_30 : M15.2.1 1 9 = (N.2.1 1 9) := (F_n F9 (show ¬ (1 < 0) by decide) rfl)
        have t_31 : (M15.2.1 1 9).toInt = (N.2.1 1 9).toInt := congrArg Int32.toInt c_30
        refine E_63 hX (by omega) hG10 hq j_29 (by omega) (q := q) (t := t) (nn := nn) (a := (N.2.1 1 9).toInt) (fun r32 M40 hG34 F33 p_35 p_36 p_37 p_38 p_39 => ?_)
        have F41 := FR.c F16 F33 tg_114
        have b_42 := g_b hG34 (a := q) (i := 4) (lo := 0) (hi := 40) (by rcases hq with rfl | rfl <;> rfl) (by rcases hq with rfl | rfl <;> rfl)
        rcases (show r32.toInt = 0 ∨ r32.toInt = 1 by (first | (clear p_38 p_39; omega) | omega)) with h43 | h43
        · skip
          have p_44 := p_39 (by (first | (clear p_38 p_39; omega) | omega))
          clear p_38 p_39
          have z_45 := g9.trans (q_aox (by omega) (by omega) (by omega) (by omega) (by omega))
          refine b_ieq_t (pc := 36) rw_59_36 (A := r32.toInt) rfl (by omega) (to_c (pc := 49) rw_59_49 (x := (0 : Int32)) rfl rfl (s_r1 (pc := 50) rw_59_50 (A := 0) rfl (by decide) ?_))
          have k_46 : (0 : Int32).toInt = 0 := rfl
          have j_47 := (QI_f (tg_110 F33) (QI_f (tg_100 F9) g5))
          exact h (0 : Int32) M40 hG34 F41 (by decide) (by decide) j_47 p_37 (by omega) (fun z => by exfalso; omega) (fun _ => inl_e (by omega) (by omega) z_45) (fun z => by exfalso; omega)
        · skip
          have p_48 := p_38 (by (first | (clear p_38 p_39; omega) | omega))
          clear p_38 p_39
          refine b_ieq_f (pc := 36) rw_59_36 (A := r32.toInt) rfl (by omega) (to_an (pc := 39) rw_59_39 rfl (to_an (pc := 40) rw_59_40 rfl (to_an (pc := 41) rw_59_41 rfl (to_in (pc := 42) rw_59_42 rfl (s_v (pc := 43) rw_59_43 (by omega) (ls0 := [.ref q, .ref 1, .ref p, .int o, .null, .null, .null]) rfl (Nat.le_of_ble_eq_true rfl) (Nat.le_of_ble_eq_true rfl) rfl (to_rc rfl rfl rfl (g_o hG34 (by rcases hq with rfl | rfl <;> rfl))) rfl ?_)))))
          have j_49 := (QI_f (tg_110 F33) (QI_f (tg_100 F9) g5))
          have j_50 := (PLs_f (fun a i z => F_n F33 (show ¬ (a = 1 ∧ 6 ≤ i ∧ i ≤ 11 ∨ (a = 67 ∨ a = 72) ∧ i = 4) by omega) rfl) (PLs_f (fun a i z => F_n F9 (show ¬ (a < 0) by omega) rfl) g7))
          refine E_60 hX (by omega) hG34 hq hp (by omega) (by omega) (by omega) j_49 p_37 (by omega) j_50 hr (q := q) (p := p) (o := o) (t := t) (nn := nn) (a := (M40.2.1 1 9).toInt) (sg := sg) (b := b) (fun r51 M61 hG53 F52 p_54 p_55 p_56 p_57 p_58 p_59 p_60 => ?_)
          have F62 := FR.c F41 F52 tg_122
          have b_63 := g_b hG53 (a := q) (i := 4) (lo := 0) (hi := 40) (by rcases hq with rfl | rfl <;> rfl) (by rcases hq with rfl | rfl <;> rfl)
          rcases (show r51.toInt = 0 ∨ r51.toInt = 1 by (first | (clear p_58 p_59 p_60; omega) | omega)) with h64 | h64
          · skip
            have p_65 := p_60 (by (first | (clear p_58 p_59 p_60; omega) | omega))
            clear p_58 p_59 p_60
            have z_66 := ((g9.trans ((q_ao (by omega) (by omega) (by omega) (by omega) (by omega)).trans (q_v rfl (show (N.2.1 q 4).toInt + 1 = (M40.2.1 q 4).toInt by omega) (show x_ns t nn (N.2.1 1 9).toInt = (M40.2.1 1 9).toInt by omega)))).trans (q_v rfl (by omega) (by omega))).trans p_65
            refine b_ine_f (pc := 46) rw_59_46 (A := r51.toInt) rfl (by omega) (to_c (pc := 49) rw_59_49 (x := (0 : Int32)) rfl rfl (s_r1 (pc := 50) rw_59_50 (A := 0) rfl (by decide) ?_))
            have k_67 : (0 : Int32).toInt = 0 := rfl
            exact h (0 : Int32) M61 hG53 F62 (by decide) (by decide) p_56 p_57 (by omega) (fun z => by exfalso; omega) (fun _ => inl_e (by omega) (by omega) z_66) (fun z => by exfalso; omega)
          · skip
            have p_68 := p_58 (by (first | (clear p_58 p_59 p_60; omega) | omega))
            have p_69 := p_59 (by (first | (clear p_58 p_59 p_60; omega) | omega))
            clear p_58 p_59 p_60
            have z_70 := ((g9.trans ((q_ao (by omega) (by omega) (by omega) (by omega) (by omega)).trans (q_v rfl (show (N.2.1 q 4).toInt + 1 = (M40.2.1 q 4).toInt by omega) (show x_ns t nn (N.2.1 1 9).toInt = (M40.2.1 1 9).toInt by omega)))).trans (q_v rfl (by omega) (by omega))).trans p_69
            refine b_ine_t (pc := 46) rw_59_46 (A := r51.toInt) rfl (by omega) (to_an (pc := 51) rw_59_51 rfl (to_c (pc := 52) rw_59_52 (x := (3 : Int32)) rfl rfl (to_c (pc := 53) rw_59_53 (x := (0 : Int32)) rfl rfl (to_c (pc := 54) rw_59_54 (x := (0 : Int32)) rfl rfl (s_v (pc := 55) rw_59_55 (by omega) (ls0 := [.ref q, .int (3 : Int32), .int (0 : Int32), .int (0 : Int32)]) rfl (Nat.le_of_ble_eq_true rfl) (Nat.le_of_ble_eq_true rfl) rfl (to_rc rfl rfl rfl (g_o hG53 (by rcases hq with rfl | rfl <;> rfl))) rfl ?_)))))
            have k_71 : (3 : Int32).toInt = 3 := rfl
            have k_72 : (0 : Int32).toInt = 0 := rfl
            refine E_64 hX (by omega) hG53 hq (by omega) (by omega) (by omega) (by omega) (by omega) p_56 (q := q) (k := (3 : Int32)) (f := (0 : Int32)) (s := (0 : Int32)) (fun M76 hG74 F73 p_75 => ?_)
            have F77 := FR.c F62 F73 tg_116
            refine s_inc (pc := 58) rw_59_58 (ls2 := fun v => [.ref q, .ref 1, .ref p, .int o, .int v]) rfl rfl (fun _ => rfl) (A := x4.toInt) (B := 1) rfl rfl (by omega) (fun v78 e79 => to_go (pc := 61) rw_59_61 ?_)
            have c_80 : M76.2.1 q 4 = (M61.2.1 q 4) := (F_n F73 (show ¬ ((q = 67 ∨ q = 72) ∧ 4 = 5 ∨ 68 ≤ q ∧ q ≤ 70 ∨ 73 ≤ q ∧ q ≤ 75) by omega) rfl)
            have t_81 : (M76.2.1 q 4).toInt = (M61.2.1 q 4).toInt := congrArg Int32.toInt c_80
            have j_82 := (CS_f (tg_111 F73) p_57)
            have j_83 := (PLs_f (fun a i z => F_n F73 (show ¬ ((a = 67 ∨ a = 72) ∧ i = 5 ∨ 68 ≤ a ∧ a ≤ 70 ∨ 73 ≤ a ∧ a ≤ 75) by omega) rfl) (PLs_f (fun a i z => F_n F52 (show ¬ (a = 1 ∧ 5 ≤ i ∨ 3 ≤ a ∧ a ≤ 5 ∨ 67 ≤ a ∧ a ≤ 76) by omega) rfl) j_50))
            have c_84 : M76.2.1 1 9 = (M61.2.1 1 9) := (F_n F73 (show ¬ ((1 = 67 ∨ 1 = 72) ∧ 9 = 5 ∨ 68 ≤ 1 ∧ 1 ≤ 70 ∨ 73 ≤ 1 ∧ 1 ≤ 75) by decide) rfl)
            have t_85 : (M76.2.1 1 9).toInt = (M61.2.1 1 9).toInt := congrArg Int32.toInt c_84
            exact ih M76 v78 hG74 F77 (by omega) (by omega) (by omega) (by omega) p_75 j_82 j_83 (by omega) (z_70.trans (q_v rfl (show (M61.2.1 q 4).toInt = (M76.2.1 q 4).toInt by omega) (show (M61.2.1 1 9).toInt = (M76.2.1 1 9).toInt by omega))) (by omega)
set_option maxRecDepth 4000 in
set_option maxHeartbeats 0 in
theorem E_59 {X : mm_X} {d : Nat} {M : mm_M} {Q : Option Value → mm_M → Prop} {q : Nat} {p : Nat} {o : Int32} {t : Nat → Int} {nn : Int} {a : Int} {sg : x_S} {b : Int} (hX : g_X X) (hd : 4 + 4 * (8 - o.toInt) ≤ (d : Int)) (hG : g_G M) (hq : q = 67 ∨ q = 72) (hp : p = 49 ∨ p = 58) (q1 : 0 ≤ o.toInt) (q2 : o.toInt ≤ 8) (q3 : o.toInt = b) (q4 : QI M) (q5 : CS M t nn) (q6 : (M.2.1 1 9).toInt = a) (q7 : PLs M p sg) (hr : RE_58 (8 - o.toInt)) (h : ∀ (r : Int32) (M1 : mm_M), g_G M1 → FR md_qt M M1 → (0 ≤ r.toInt) → (r.toInt ≤ 1) → QI M1 → CS M1 t nn → (r.toInt = 1 → (M.2.1 q 4).toInt < (M1.2.1 q 4).toInt) → ((r.toInt = 1 → x_qq t nn sg 0 b (M.2.1 q 4).toInt a = x_qq t nn sg 1 b (M1.2.1 q 4).toInt (M1.2.1 1 9).toInt)) → ((r.toInt = 0 → x_qq t nn sg 0 b (M.2.1 q 4).toInt a = Sum.inl ((M1.2.1 1 10).toInt, (M1.2.1 1 11).toInt))) → ((r.toInt = 1 → ¬ (x_kind t nn (M1.2.1 1 9).toInt = 1 ∧ x_kx (x_val t nn (M1.2.1 1 9).toInt) = 12))) → Q (some (.int r)) M1) : mm_T X d 59 0 [.ref q, .ref 1, .ref p, .int o, .null] [] M Q := by
  have F0 : FR md_qt M M := FR.rf
  have b_86 := g_b hG (a := q) (i := 4) (lo := 0) (hi := 40) (by rcases hq with rfl | rfl <;> rfl) (by rcases hq with rfl | rfl <;> rfl)
  refine to_an (pc := 0) rw_59_0 rfl (to_an (pc := 1) rw_59_1 rfl (to_an (pc := 2) rw_59_2 rfl (to_in (pc := 3) rw_59_3 rfl (s_v (pc := 4) rw_59_4 (by omega) (ls0 := [.ref q, .ref 1, .ref p, .int o, .null, .null, .null]) rfl (Nat.le_of_ble_eq_true rfl) (Nat.le_of_ble_eq_true rfl) rfl (to_rc rfl rfl rfl (g_o hG (by rcases hq with rfl | rfl <;> rfl))) rfl (E_60 hX (by omega) hG hq hp (by omega) (by omega) (by omega) q4 q5 (by omega) q7 hr (q := q) (p := p) (o := o) (t := t) (nn := nn) (a := a) (sg := sg) (b := b) (fun r87 M97 hG89 F88 p_90 p_91 p_92 p_93 p_94 p_95 p_96 => ?_))))))
  have F98 := FR.c F0 F88 tg_122
  have b_99 := g_b hG89 (a := q) (i := 4) (lo := 0) (hi := 40) (by rcases hq with rfl | rfl <;> rfl) (by rcases hq with rfl | rfl <;> rfl)
  rcases (show r87.toInt = 0 ∨ r87.toInt = 1 by omega) with h100 | h100
  · skip
    have p_101 := p_96 (by omega)
    clear p_94 p_95 p_96
    have z_102 := p_101
    refine b_ine_f (pc := 7) rw_59_7 (A := r87.toInt) rfl (by omega) (to_c (pc := 10) rw_59_10 (x := (0 : Int32)) rfl rfl (s_r1 (pc := 11) rw_59_11 (A := 0) rfl (by decide) ?_))
    have k_103 : (0 : Int32).toInt = 0 := rfl
    exact h (0 : Int32) M97 hG89 F98 (by decide) (by decide) p_92 p_93 (by omega) (fun z => by exfalso; omega) (fun _ => inl_e (by omega) (by omega) z_102) (fun z => by exfalso; omega)
  · skip
    have p_104 := p_94 (by omega)
    have p_105 := p_95 (by omega)
    clear p_94 p_95 p_96
    have z_106 := p_105
    refine b_ine_t (pc := 7) rw_59_7 (A := r87.toInt) rfl (by omega) (to_c (pc := 12) rw_59_12 (x := (0 : Int32)) rfl rfl (to_is (pc := 13) rw_59_13 (ls2 := [.ref q, .ref 1, .ref p, .int o, .int (0 : Int32)]) rfl rfl ?_))
    have k_107 : (0 : Int32).toInt = 0 := rfl
    have j_108 := (PLs_f (fun a i z => F_n F88 (show ¬ (a = 1 ∧ 5 ≤ i ∨ 3 ≤ a ∧ a ≤ 5 ∨ 67 ≤ a ∧ a ≤ 76) by omega) rfl) q7)
    exact (U_59_0 (q := q) (p := p) (o := o) (t := t) (nn := nn) (a := a) (sg := sg) (b := b) hX hd hq hp q1 q2 q3 q4 q5 q6 q7 hr h ((41 - (0 : Int32).toInt).toNat + 1)) M97 (0 : Int32) hG89 F98 (by omega) (by omega) (by omega) (by omega) p_92 p_93 j_108 (by omega) (z_106.trans (q_v rfl (show (M97.2.1 q 4).toInt = (M97.2.1 q 4).toInt by omega) (show (M97.2.1 1 9).toInt = (M97.2.1 1 9).toInt by omega))) (by omega)
set_option maxRecDepth 4000 in
set_option maxHeartbeats 0 in
theorem U_58_0 {X : mm_X} {d : Nat} {M : mm_M} {Q : Option Value → mm_M → Prop} {q : Nat} {p : Nat} {o : Int32} {t : Nat → Int} {nn : Int} {a : Int} {sg : x_S} {b : Int} (hX : g_X X) (hd : 5 + 4 * (8 - o.toInt) ≤ (d : Int)) (hq : q = 67 ∨ q = 72) (hp : p = 49 ∨ p = 58) (q1 : 0 ≤ o.toInt) (q2 : o.toInt ≤ 8) (q3 : o.toInt = b) (q4 : QI M) (q5 : CS M t nn) (q6 : (M.2.1 1 9).toInt = a) (q7 : PLs M p sg) (hr : RE_58 (8 - o.toInt)) (h : ∀ (r : Int32) (M1 : mm_M), g_G M1 → FR md_qt M M1 → (0 ≤ r.toInt) → (r.toInt ≤ 1) → QI M1 → CS M1 t nn → (r.toInt = 1 → (M.2.1 q 4).toInt < (M1.2.1 q 4).toInt) → ((r.toInt = 1 → x_qq t nn sg 0 b (M.2.1 q 4).toInt a = x_qq t nn sg 1 b (M1.2.1 q 4).toInt (M1.2.1 1 9).toInt)) → ((r.toInt = 0 → x_qq t nn sg 0 b (M.2.1 q 4).toInt a = Sum.inl ((M1.2.1 1 10).toInt, (M1.2.1 1 11).toInt))) → ((r.toInt = 1 → ¬ (x_kind t nn (M1.2.1 1 9).toInt = 1 ∧ x_kx (x_val t nn (M1.2.1 1 9).toInt) = 12) ∧ ¬ (x_kind t nn (M1.2.1 1 9).toInt = 1 ∧ x_kx (x_val t nn (M1.2.1 1 9).toInt) = 13))) → Q (some (.int r)) M1) : ∀ nn9 : Nat, (∀ (N : mm_M) (x4 : Int32), g_G N → FR md_qt M N → (0 ≤ x4.toInt) → (x4.toInt ≤ 41) → (x4.toInt ≤ (N.2.1 q 4).toInt) → (o.toInt = o.toInt) → (QI N) → (CS N t nn) → (PLs N p sg) → ((M.2.1 q 4).toInt < (N.2.1 q 4).toInt) → (x_qq t nn sg 0 b (M.2.1 q 4).toInt a = x_qq t nn sg 1 b (N.2.1 q 4).toInt (N.2.1 1 9).toInt) → (¬ (x_kind t nn (N.2.1 1 9).toInt = 1 ∧ x_kx (x_val t nn (N.2.1 1 9).toInt) = 12)) → 41 - x4.toInt < (nn9 : Int) → mm_T X d 58 15 [.ref q, .ref 1, .ref p, .int o, .int x4] [] N Q) := by
  intro nn9
  induction nn9 with
  | zero =>
    intro N x4 hG F0 g1 g2 g3 g4 g5 g6 g7 g8 g9 g10 hm
    have b_1 := g_b hG (a := q) (i := 4) (lo := 0) (hi := 40) (by rcases hq with rfl | rfl <;> rfl) (by rcases hq with rfl | rfl <;> rfl)
    exfalso; omega
  | succ nn9 ih =>
    intro N x4 hG F0 g1 g2 g3 g4 g5 g6 g7 g8 g9 g10 hm
    have b_2 := g_b hG (a := q) (i := 4) (lo := 0) (hi := 40) (by rcases hq with rfl | rfl <;> rfl) (by rcases hq with rfl | rfl <;> rfl)
    have c_3 := CS_u g6 (a := (N.2.1 1 9).toInt) (by (first | (clear g10; omega) | omega))
    unfold x_C at c_3
    have z_4 := x_kx_q (x_val t nn (N.2.1 1 9).toInt)
    refine to_i (pc := 15) rw_58_15 rfl (to_c (pc := 17) rw_58_17 (x := (40 : Int32)) rfl rfl (b_cgt (pc := 19) rw_58_19 (A := x4.toInt) (B := 40) rfl rfl (fun h5 => ?_) (fun h5 => ?_)))
    · refine to_c (pc := 64) rw_58_64 (x := (1 : Int32)) rfl rfl (s_r1 (pc := 65) rw_58_65 (A := 1) rfl (by decide) ?_)
      have k_6 : (1 : Int32).toInt = 1 := rfl
      exact h (1 : Int32) N hG F0 (by decide) (by decide) g5 g6 (by (first | (clear g10; omega) | omega)) (fun _ => (g9.trans (q_v rfl (show (N.2.1 q 4).toInt = (N.2.1 q 4).toInt by (first | (clear g10; omega) | omega)) (show (N.2.1 1 9).toInt = (N.2.1 1 9).toInt by (first | (clear g10; omega) | omega))))) (fun z => by exfalso; omega) (fun _ => by (first | (clear g10; omega) | omega))
    · refine to_an (pc := 22) rw_58_22 rfl (to_c (pc := 23) rw_58_23 (x := (522190848 : Int32)) rfl rfl (s_v (pc := 25) rw_58_25 (by (first | (clear g10; omega) | omega)) (ls0 := [.ref 1, .int (522190848 : Int32)]) rfl (Nat.le_of_ble_eq_true rfl) (Nat.le_of_ble_eq_true rfl) rfl (to_rc rfl rfl rfl (g_o hG rfl)) rfl ?_))
      have k_7 : (522190848 : Int32).toInt = 522190848 := rfl
      refine E_86 hX (by (first | (clear g10; omega) | omega)) hG g6 (by (first | (clear g10; omega) | omega)) (x := (522190848 : Int32)) (t := t) (nn := nn) (a := (N.2.1 1 9).toInt) (fun r8 M15 hG10 F9 p_11 p_12 p_13 p_14 => ?_)
      have F16 := FR.c F0 F9 tg_115
      rcases (show r8.toInt = 0 ∨ r8.toInt = 1 by (first | (clear g10 p_13 p_14; omega) | omega)) with h17 | h17
      · skip
        have p_18 := p_14 (by (first | (clear g10 p_13 p_14; omega) | omega))
        clear p_13 p_14
        refine b_ieq_t (pc := 28) rw_58_28 (A := r8.toInt) rfl (by (first | (clear g10; omega) | omega)) (to_c (pc := 64) rw_58_64 (x := (1 : Int32)) rfl rfl (s_r1 (pc := 65) rw_58_65 (A := 1) rfl (by decide) ?_))
        have k_19 : (1 : Int32).toInt = 1 := rfl
        have j_20 := (QI_f (tg_100 F9) g5)
        have j_21 := (CS_f (tg_28 F9) g6)
        have c_22 : M15.2.1 q 4 = (N.2.1 q 4) := (F_n F9 (show ¬ (q < 0) by (first | (clear g10; omega) | omega)) rfl)
        have t_23 : (M15.2.1 q 4).toInt = (N.2.1 q 4).toInt := congrArg Int32.toInt c_22
        have c_24 : M15.2.1 1 9 = (N.2.1 1 9) := (F_n F9 (show ¬ (1 < 0) by decide) rfl)
        have t_25 : (M15.2.1 1 9).toInt = (N.2.1 1 9).toInt := congrArg Int32.toInt c_24
        exact h (1 : Int32) M15 hG10 F16 (by decide) (by decide) j_20 j_21 (by (first | (clear g10; omega) | omega)) (fun _ => (g9.trans (q_v rfl (show (N.2.1 q 4).toInt = (M15.2.1 q 4).toInt by (first | (clear g10; omega) | omega)) (show (N.2.1 1 9).toInt = (M15.2.1 1 9).toInt by (first | (clear g10; omega) | omega))))) (fun z => by exfalso; omega) (fun _ => by rw [show (M15.2.1 1 9).toInt = (N.2.1 1 9).toInt by (first | (clear g10; omega) | omega)]; (first | (clear g10; omega) | omega))
      · skip
        have p_26 := p_13 (by (first | (clear g10 p_13 p_14; omega) | omega))
        clear p_13 p_14
        refine b_ieq_f (pc := 28) rw_58_28 (A := r8.toInt) rfl (by (first | (clear g10; omega) | omega)) (to_an (pc := 31) rw_58_31 rfl (to_an (pc := 32) rw_58_32 rfl (s_v (pc := 33) rw_58_33 (by (first | (clear g10; omega) | omega)) (ls0 := [.ref q, .ref 1]) rfl (Nat.le_of_ble_eq_true rfl) (Nat.le_of_ble_eq_true rfl) rfl (to_rc rfl rfl rfl (g_o hG10 (by rcases hq with rfl | rfl <;> rfl))) rfl ?_)))
        have c_27 : M15.2.1 q 4 = (N.2.1 q 4) := (F_n F9 (show ¬ (q < 0) by (first | (clear g10; omega) | omega)) rfl)
        have t_28 : (M15.2.1 q 4).toInt = (N.2.1 q 4).toInt := congrArg Int32.toInt c_27
        have j_29 := (CS_f (tg_28 F9) g6)
        have c_30 : M15.2.1 1 9 = (N.2.1 1 9) := (F_n F9 (show ¬ (1 < 0) by decide) rfl)
        have t_31 : (M15.2.1 1 9).toInt = (N.2.1 1 9).toInt := congrArg Int32.toInt c_30
        refine E_63 hX (by (first | (clear g10; omega) | omega)) hG10 hq j_29 (by (first | (clear g10; omega) | omega)) (q := q) (t := t) (nn := nn) (a := (N.2.1 1 9).toInt) (fun r32 M40 hG34 F33 p_35 p_36 p_37 p_38 p_39 => ?_)
        have F41 := FR.c F16 F33 tg_114
        have b_42 := g_b hG34 (a := q) (i := 4) (lo := 0) (hi := 40) (by rcases hq with rfl | rfl <;> rfl) (by rcases hq with rfl | rfl <;> rfl)
        rcases (show r32.toInt = 0 ∨ r32.toInt = 1 by (first | (clear g10 p_38 p_39; omega) | omega)) with h43 | h43
        · skip
          have p_44 := p_39 (by (first | (clear g10 p_38 p_39; omega) | omega))
          clear p_38 p_39
          have z_45 := g9.trans (q_aox (by (first | (clear g10; omega) | omega)) (by (first | (clear g10; omega) | omega)) (by (first | (clear g10; omega) | omega)) (by (first | (clear g10; omega) | omega)) (by (first | (clear g10; omega) | omega)))
          refine b_ieq_t (pc := 36) rw_58_36 (A := r32.toInt) rfl (by (first | (clear g10; omega) | omega)) (to_c (pc := 49) rw_58_49 (x := (0 : Int32)) rfl rfl (s_r1 (pc := 50) rw_58_50 (A := 0) rfl (by decide) ?_))
          have k_46 : (0 : Int32).toInt = 0 := rfl
          have j_47 := (QI_f (tg_110 F33) (QI_f (tg_100 F9) g5))
          exact h (0 : Int32) M40 hG34 F41 (by decide) (by decide) j_47 p_37 (by (first | (clear g10; omega) | omega)) (fun z => by exfalso; omega) (fun _ => inl_e (by (first | (clear g10; omega) | omega)) (by (first | (clear g10; omega) | omega)) z_45) (fun z => by exfalso; omega)
        · skip
          have p_48 := p_38 (by (first | (clear g10 p_38 p_39; omega) | omega))
          clear p_38 p_39
          refine b_ieq_f (pc := 36) rw_58_36 (A := r32.toInt) rfl (by (first | (clear g10; omega) | omega)) (to_an (pc := 39) rw_58_39 rfl (to_an (pc := 40) rw_58_40 rfl (to_an (pc := 41) rw_58_41 rfl (to_in (pc := 42) rw_58_42 rfl (s_v (pc := 43) rw_58_43 (by (first | (clear g10; omega) | omega)) (ls0 := [.ref q, .ref 1, .ref p, .int o, .null]) rfl (Nat.le_of_ble_eq_true rfl) (Nat.le_of_ble_eq_true rfl) rfl (to_rc rfl rfl rfl (g_o hG34 (by rcases hq with rfl | rfl <;> rfl))) rfl ?_)))))
          have j_49 := (QI_f (tg_110 F33) (QI_f (tg_100 F9) g5))
          have j_50 := (PLs_f (fun a i z => F_n F33 (show ¬ (a = 1 ∧ 6 ≤ i ∧ i ≤ 11 ∨ (a = 67 ∨ a = 72) ∧ i = 4) by (first | (clear g10; omega) | omega)) rfl) (PLs_f (fun a i z => F_n F9 (show ¬ (a < 0) by (first | (clear g10; omega) | omega)) rfl) g7))
          refine E_59 hX (by (first | (clear g10; omega) | omega)) hG34 hq hp (by (first | (clear g10; omega) | omega)) (by (first | (clear g10; omega) | omega)) (by (first | (clear g10; omega) | omega)) j_49 p_37 (by (first | (clear g10; omega) | omega)) j_50 hr (q := q) (p := p) (o := o) (t := t) (nn := nn) (a := (M40.2.1 1 9).toInt) (sg := sg) (b := b) (fun r51 M62 hG53 F52 p_54 p_55 p_56 p_57 p_58 p_59 p_60 p_61 => ?_)
          have F63 := FR.c F41 F52 tg_122
          have b_64 := g_b hG53 (a := q) (i := 4) (lo := 0) (hi := 40) (by rcases hq with rfl | rfl <;> rfl) (by rcases hq with rfl | rfl <;> rfl)
          rcases (show r51.toInt = 0 ∨ r51.toInt = 1 by (first | (clear g10 p_58 p_59 p_60 p_61; omega) | omega)) with h65 | h65
          · skip
            have p_66 := p_60 (by (first | (clear g10 p_58 p_59 p_60 p_61; omega) | omega))
            clear p_58 p_59 p_60 p_61
            have z_67 := ((g9.trans ((q_ao (by (first | (clear g10; omega) | omega)) (by (first | (clear g10; omega) | omega)) (by (first | (clear g10; omega) | omega)) (by (first | (clear g10; omega) | omega)) (by (first | (clear g10; omega) | omega))).trans (q_v rfl (show (N.2.1 q 4).toInt + 1 = (M40.2.1 q 4).toInt by (first | (clear g10; omega) | omega)) (show x_ns t nn (N.2.1 1 9).toInt = (M40.2.1 1 9).toInt by (first | (clear g10; omega) | omega))))).trans (q_v rfl (by (first | (clear g10; omega) | omega)) (by (first | (clear g10; omega) | omega)))).trans p_66
            refine b_ine_f (pc := 46) rw_58_46 (A := r51.toInt) rfl (by (first | (clear g10; omega) | omega)) (to_c (pc := 49) rw_58_49 (x := (0 : Int32)) rfl rfl (s_r1 (pc := 50) rw_58_50 (A := 0) rfl (by decide) ?_))
            have k_68 : (0 : Int32).toInt = 0 := rfl
            exact h (0 : Int32) M62 hG53 F63 (by decide) (by decide) p_56 p_57 (by (first | (clear g10; omega) | omega)) (fun z => by exfalso; omega) (fun _ => inl_e (by (first | (clear g10; omega) | omega)) (by (first | (clear g10; omega) | omega)) z_67) (fun z => by exfalso; omega)
          · skip
            have p_69 := p_58 (by (first | (clear g10 p_58 p_59 p_60 p_61; omega) | omega))
            have p_70 := p_59 (by (first | (clear g10 p_58 p_59 p_60 p_61; omega) | omega))
            have p_71 := p_61 (by (first | (clear g10 p_58 p_59 p_60 p_61; omega) | omega))
            clear p_58 p_59 p_60 p_61
            have z_72 := ((g9.trans ((q_ao (by (first | (clear g10; omega) | omega)) (by (first | (clear g10; omega) | omega)) (by (first | (clear g10; omega) | omega)) (by (first | (clear g10; omega) | omega)) (by (first | (clear g10; omega) | omega))).trans (q_v rfl (show (N.2.1 q 4).toInt + 1 = (M40.2.1 q 4).toInt by (first | (clear g10; omega) | omega)) (show x_ns t nn (N.2.1 1 9).toInt = (M40.2.1 1 9).toInt by (first | (clear g10; omega) | omega))))).trans (q_v rfl (by (first | (clear g10; omega) | omega)) (by (first | (clear g10; omega) | omega)))).trans p_70
            refine b_ine_t (pc := 46) rw_58_46 (A := r51.toInt) rfl (by (first | (clear g10; omega) | omega)) (to_an (pc := 51) rw_58_51 rfl (to_c (pc := 52) rw_58_52 (x := (4 : Int32)) rfl rfl (to_c (pc := 53) rw_58_53 (x := (0 : Int32)) rfl rfl (to_c (pc := 54) rw_58_54 (x := (0 : Int32)) rfl rfl (s_v (pc := 55) rw_58_55 (by (first | (clear g10; omega) | omega)) (ls0 := [.ref q, .int (4 : Int32), .int (0 : Int32), .int (0 : Int32)]) rfl (Nat.le_of_ble_eq_true rfl) (Nat.le_of_ble_eq_true rfl) rfl (to_rc rfl rfl rfl (g_o hG53 (by rcases hq with rfl | rfl <;> rfl))) rfl ?_)))))
            have k_73 : (4 : Int32).toInt = 4 := rfl
            have k_74 : (0 : Int32).toInt = 0 := rfl
            refine E_64 hX (by (first | (clear g10; omega) | omega)) hG53 hq (by (first | (clear g10; omega) | omega)) (by (first | (clear g10; omega) | omega)) (by (first | (clear g10; omega) | omega)) (by (first | (clear g10; omega) | omega)) (by (first | (clear g10; omega) | omega)) p_56 (q := q) (k := (4 : Int32)) (f := (0 : Int32)) (s := (0 : Int32)) (fun M78 hG76 F75 p_77 => ?_)
            have F79 := FR.c F63 F75 tg_116
            refine s_inc (pc := 58) rw_58_58 (ls2 := fun v => [.ref q, .ref 1, .ref p, .int o, .int v]) rfl rfl (fun _ => rfl) (A := x4.toInt) (B := 1) rfl rfl (by (first | (clear g10; omega) | omega)) (fun v80 e81 => to_go (pc := 61) rw_58_61 ?_)
            have c_82 : M78.2.1 q 4 = (M62.2.1 q 4) := (F_n F75 (show ¬ ((q = 67 ∨ q = 72) ∧ 4 = 5 ∨ 68 ≤ q ∧ q ≤ 70 ∨ 73 ≤ q ∧ q ≤ 75) by (first | (clear g10; omega) | omega)) rfl)
            have t_83 : (M78.2.1 q 4).toInt = (M62.2.1 q 4).toInt := congrArg Int32.toInt c_82
            have j_84 := (CS_f (tg_111 F75) p_57)
            have j_85 := (PLs_f (fun a i z => F_n F75 (show ¬ ((a = 67 ∨ a = 72) ∧ i = 5 ∨ 68 ≤ a ∧ a ≤ 70 ∨ 73 ≤ a ∧ a ≤ 75) by (first | (clear g10; omega) | omega)) rfl) (PLs_f (fun a i z => F_n F52 (show ¬ (a = 1 ∧ 5 ≤ i ∨ 3 ≤ a ∧ a ≤ 5 ∨ 67 ≤ a ∧ a ≤ 76) by (first | (clear g10; omega) | omega)) rfl) j_50))
            have c_86 : M78.2.1 1 9 = (M62.2.1 1 9) := (F_n F75 (show ¬ ((1 = 67 ∨ 1 = 72) ∧ 9 = 5 ∨ 68 ≤ 1 ∧ 1 ≤ 70 ∨ 73 ≤ 1 ∧ 1 ≤ 75) by decide) rfl)
            have t_87 : (M78.2.1 1 9).toInt = (M62.2.1 1 9).toInt := congrArg Int32.toInt c_86
            exact ih M78 v80 hG76 F79 (by (first | (clear g10; omega) | omega)) (by (first | (clear g10; omega) | omega)) (by (first | (clear g10; omega) | omega)) (by (first | (clear g10; omega) | omega)) p_77 j_84 j_85 (by (first | (clear g10; omega) | omega)) (z_72.trans (q_v rfl (show (M62.2.1 q 4).toInt = (M78.2.1 q 4).toInt by (first | (clear g10; omega) | omega)) (show (M62.2.1 1 9).toInt = (M78.2.1 1 9).toInt by (first | (clear g10; omega) | omega)))) (by rw [show (M78.2.1 1 9).toInt = (M62.2.1 1 9).toInt by (first | (clear g10; omega) | omega)]; (first | (clear g10; omega) | omega)) (by (first | (clear g10; omega) | omega))
set_option maxRecDepth 4000 in
set_option maxHeartbeats 0 in
theorem BE_58 {X : mm_X} {d : Nat} {M : mm_M} {Q : Option Value → mm_M → Prop} {q : Nat} {p : Nat} {o : Int32} {t : Nat → Int} {nn : Int} {a : Int} {sg : x_S} {b : Int} (hX : g_X X) (hd : 5 + 4 * (8 - o.toInt) ≤ (d : Int)) (hG : g_G M) (hq : q = 67 ∨ q = 72) (hp : p = 49 ∨ p = 58) (q1 : 0 ≤ o.toInt) (q2 : o.toInt ≤ 8) (q3 : o.toInt = b) (q4 : QI M) (q5 : CS M t nn) (q6 : (M.2.1 1 9).toInt = a) (q7 : PLs M p sg) (hr : RE_58 (8 - o.toInt)) (h : ∀ (r : Int32) (M1 : mm_M), g_G M1 → FR md_qt M M1 → (0 ≤ r.toInt) → (r.toInt ≤ 1) → QI M1 → CS M1 t nn → (r.toInt = 1 → (M.2.1 q 4).toInt < (M1.2.1 q 4).toInt) → ((r.toInt = 1 → x_qq t nn sg 0 b (M.2.1 q 4).toInt a = x_qq t nn sg 1 b (M1.2.1 q 4).toInt (M1.2.1 1 9).toInt)) → ((r.toInt = 0 → x_qq t nn sg 0 b (M.2.1 q 4).toInt a = Sum.inl ((M1.2.1 1 10).toInt, (M1.2.1 1 11).toInt))) → ((r.toInt = 1 → ¬ (x_kind t nn (M1.2.1 1 9).toInt = 1 ∧ x_kx (x_val t nn (M1.2.1 1 9).toInt) = 12) ∧ ¬ (x_kind t nn (M1.2.1 1 9).toInt = 1 ∧ x_kx (x_val t nn (M1.2.1 1 9).toInt) = 13))) → Q (some (.int r)) M1) : mm_T X d 58 0 [.ref q, .ref 1, .ref p, .int o, .null] [] M Q := by
  have F0 : FR md_qt M M := FR.rf
  have b_88 := g_b hG (a := q) (i := 4) (lo := 0) (hi := 40) (by rcases hq with rfl | rfl <;> rfl) (by rcases hq with rfl | rfl <;> rfl)
  refine to_an (pc := 0) rw_58_0 rfl (to_an (pc := 1) rw_58_1 rfl (to_an (pc := 2) rw_58_2 rfl (to_in (pc := 3) rw_58_3 rfl (s_v (pc := 4) rw_58_4 (by omega) (ls0 := [.ref q, .ref 1, .ref p, .int o, .null]) rfl (Nat.le_of_ble_eq_true rfl) (Nat.le_of_ble_eq_true rfl) rfl (to_rc rfl rfl rfl (g_o hG (by rcases hq with rfl | rfl <;> rfl))) rfl (E_59 hX (by omega) hG hq hp (by omega) (by omega) (by omega) q4 q5 (by omega) q7 hr (q := q) (p := p) (o := o) (t := t) (nn := nn) (a := a) (sg := sg) (b := b) (fun r89 M100 hG91 F90 p_92 p_93 p_94 p_95 p_96 p_97 p_98 p_99 => ?_))))))
  have F101 := FR.c F0 F90 tg_122
  have b_102 := g_b hG91 (a := q) (i := 4) (lo := 0) (hi := 40) (by rcases hq with rfl | rfl <;> rfl) (by rcases hq with rfl | rfl <;> rfl)
  rcases (show r89.toInt = 0 ∨ r89.toInt = 1 by omega) with h103 | h103
  · skip
    have p_104 := p_98 (by omega)
    clear p_96 p_97 p_98 p_99
    have z_105 := p_104
    refine b_ine_f (pc := 7) rw_58_7 (A := r89.toInt) rfl (by omega) (to_c (pc := 10) rw_58_10 (x := (0 : Int32)) rfl rfl (s_r1 (pc := 11) rw_58_11 (A := 0) rfl (by decide) ?_))
    have k_106 : (0 : Int32).toInt = 0 := rfl
    exact h (0 : Int32) M100 hG91 F101 (by decide) (by decide) p_94 p_95 (by omega) (fun z => by exfalso; omega) (fun _ => inl_e (by omega) (by omega) z_105) (fun z => by exfalso; omega)
  · skip
    have p_107 := p_96 (by omega)
    have p_108 := p_97 (by omega)
    have p_109 := p_99 (by omega)
    clear p_96 p_97 p_98 p_99
    have z_110 := p_108
    refine b_ine_t (pc := 7) rw_58_7 (A := r89.toInt) rfl (by omega) (to_c (pc := 12) rw_58_12 (x := (0 : Int32)) rfl rfl (to_is (pc := 13) rw_58_13 (ls2 := [.ref q, .ref 1, .ref p, .int o, .int (0 : Int32)]) rfl rfl ?_))
    have k_111 : (0 : Int32).toInt = 0 := rfl
    have j_112 := (PLs_f (fun a i z => F_n F90 (show ¬ (a = 1 ∧ 5 ≤ i ∨ 3 ≤ a ∧ a ≤ 5 ∨ 67 ≤ a ∧ a ≤ 76) by omega) rfl) q7)
    exact (U_58_0 (q := q) (p := p) (o := o) (t := t) (nn := nn) (a := a) (sg := sg) (b := b) hX hd hq hp q1 q2 q3 q4 q5 q6 q7 hr h ((41 - (0 : Int32).toInt).toNat + 1)) M100 (0 : Int32) hG91 F101 (by omega) (by omega) (by omega) (by omega) p_94 p_95 j_112 (by omega) (z_110.trans (q_v rfl (show (M100.2.1 q 4).toInt = (M100.2.1 q 4).toInt by omega) (show (M100.2.1 1 9).toInt = (M100.2.1 1 9).toInt by omega))) (by omega) (by omega)
theorem RE_58_all : ∀ nn : Nat, RE_58 (nn : Int) := by
  intro nn
  induction nn with
  | zero =>
    intro X d M Q q p o t nn a sg b hX hd hG hq hp q1 q2 q3 q4 q5 q6 q7 hm h
    exfalso; omega
  | succ nn ih =>
    intro X d M Q q p o t nn a sg b hX hd hG hq hp q1 q2 q3 q4 q5 q6 q7 hm h
    exact BE_58 hX hd hG hq hp q1 q2 q3 q4 q5 q6 q7 (fun X2 d2 M2 Q2 q2 p2 o2 t2 nn2 a2 sg2 b2 e71 e72 e73 hq2 hp2 q12 q22 q32 q42 q52 q62 q72 hm2 h2 => ih X2 d2 M2 Q2 q2 p2 o2 t2 nn2 a2 sg2 b2 e71 e72 e73 hq2 hp2 q12 q22 q32 q42 q52 q62 q72 (by omega) h2) h
theorem E_58 {X : mm_X} {d : Nat} {M : mm_M} {Q : Option Value → mm_M → Prop} {q : Nat} {p : Nat} {o : Int32} {t : Nat → Int} {nn : Int} {a : Int} {sg : x_S} {b : Int} (hX : g_X X) (hd : 5 + 4 * (8 - o.toInt) ≤ (d : Int)) (hG : g_G M) (hq : q = 67 ∨ q = 72) (hp : p = 49 ∨ p = 58) (q1 : 0 ≤ o.toInt) (q2 : o.toInt ≤ 8) (q3 : o.toInt = b) (q4 : QI M) (q5 : CS M t nn) (q6 : (M.2.1 1 9).toInt = a) (q7 : PLs M p sg) (h : ∀ (r : Int32) (M1 : mm_M), g_G M1 → FR md_qt M M1 → (0 ≤ r.toInt) → (r.toInt ≤ 1) → QI M1 → CS M1 t nn → (r.toInt = 1 → (M.2.1 q 4).toInt < (M1.2.1 q 4).toInt) → ((r.toInt = 1 → x_qq t nn sg 0 b (M.2.1 q 4).toInt a = x_qq t nn sg 1 b (M1.2.1 q 4).toInt (M1.2.1 1 9).toInt)) → ((r.toInt = 0 → x_qq t nn sg 0 b (M.2.1 q 4).toInt a = Sum.inl ((M1.2.1 1 10).toInt, (M1.2.1 1 11).toInt))) → ((r.toInt = 1 → ¬ (x_kind t nn (M1.2.1 1 9).toInt = 1 ∧ x_kx (x_val t nn (M1.2.1 1 9).toInt) = 12) ∧ ¬ (x_kind t nn (M1.2.1 1 9).toInt = 1 ∧ x_kx (x_val t nn (M1.2.1 1 9).toInt) = 13))) → Q (some (.int r)) M1) : mm_T X d 58 0 [.ref q, .ref 1, .ref p, .int o, .null] [] M Q := RE_58_all ((8 - o.toInt).toNat + 1) X d M Q q p o t nn a sg b hX hd hG hq hp q1 q2 q3 q4 q5 q6 q7 (by omega) h
set_option maxRecDepth 4000 in
set_option maxHeartbeats 0 in
theorem E_57 {X : mm_X} {d : Nat} {M : mm_M} {Q : Option Value → mm_M → Prop} {q : Nat} {p : Nat} {t : Nat → Int} {nn : Int} {a : Int} {sg : x_S} (hX : g_X X) (hd : 38 ≤ d) (hG : g_G M) (hq : q = 67 ∨ q = 72) (hp : p = 49 ∨ p = 58) (q1 : QI M) (q2 : CS M t nn) (q3 : (M.2.1 1 9).toInt = a) (q4 : PLs M p sg) (h : ∀ (r : Int32) (M1 : mm_M), g_G M1 → FR md_qt M M1 → (0 ≤ r.toInt) → (r.toInt ≤ 1) → QI M1 → CS M1 t nn → (r.toInt = 1 → 0 < (M1.2.1 q 4).toInt) → ((r.toInt = 1 → x_qq t nn sg 0 0 0 a = Sum.inr (M1.2.1 q 4).toInt)) → ((r.toInt = 0 → x_qq t nn sg 0 0 0 a = Sum.inl ((M1.2.1 1 10).toInt, (M1.2.1 1 11).toInt))) → Q (some (.int r)) M1) : mm_T X d 57 0 [.ref q, .ref 1, .ref p] [] M Q := by
  have F0 : FR md_qt M M := FR.rf
  have c_1 := CS_u q2 (a := a) (by omega)
  unfold x_C at c_1
  refine to_an (pc := 0) rw_57_0 rfl (s_v (pc := 1) rw_57_1 (dp0 hd (by decide)) (ls0 := [.ref q]) rfl (Nat.le_of_ble_eq_true rfl) (Nat.le_of_ble_eq_true rfl) rfl (to_rc rfl rfl rfl (g_o hG (by rcases hq with rfl | rfl <;> rfl))) rfl (to_an (pc := 0) rw_56_0 rfl (to_c (pc := 1) rw_56_1 (x := (0 : Int32)) rfl rfl (s_pI (pc := 2) rw_56_2 hG (by rcases hq with rfl | rfl <;> rfl) (fun M3 W2 => ?_)))))
  have hG4 := g_w hG W2 (A := 0) rfl (lo := 0) (hi := 40) (by rcases hq with rfl | rfl <;> rfl) (by rcases hq with rfl | rfl <;> rfl) (by omega) (by omega)
  have F5 := FR.w F0 W2 (show q = 1 ∧ 5 ≤ 4 ∨ 3 ≤ q ∧ q ≤ 5 ∨ 67 ≤ q ∧ q ≤ 76 by omega)
  refine to_an (pc := 5) rw_56_5 rfl (to_c (pc := 6) rw_56_6 (x := (0 : Int32)) rfl rfl (s_pI (pc := 7) rw_56_7 hG4 (by rcases hq with rfl | rfl <;> rfl) (fun M7 W6 => ?_)))
  have hG8 := g_w hG4 W6 (A := 0) rfl (lo := 0) (hi := 40) (by rcases hq with rfl | rfl <;> rfl) (by rcases hq with rfl | rfl <;> rfl) (by omega) (by omega)
  have F9 := FR.w F5 W6 (show q = 1 ∧ 5 ≤ 5 ∨ 3 ≤ q ∧ q ≤ 5 ∨ 67 ≤ q ∧ q ≤ 76 by omega)
  refine to_rv (pc := 10) rw_56_10 (to_an (pc := 4) rw_57_4 rfl (to_an (pc := 5) rw_57_5 rfl (to_an (pc := 6) rw_57_6 rfl (to_c (pc := 7) rw_57_7 (x := (0 : Int32)) rfl rfl (s_v (pc := 8) rw_57_8 (dp0 hd (by decide)) (ls0 := [.ref q, .ref 1, .ref p, .int (0 : Int32), .null]) rfl (Nat.le_of_ble_eq_true rfl) (Nat.le_of_ble_eq_true rfl) rfl (to_rc rfl rfl rfl (g_o hG8 (by rcases hq with rfl | rfl <;> rfl))) rfl ?_)))))
  have k_10 : (0 : Int32).toInt = 0 := rfl
  have c_11 : M7.2.1 q 4 = (0 : Int32) := (W_n W6 (by omega) (W_e W2))
  have t_12 : (M7.2.1 q 4).toInt = (0 : Int32).toInt := congrArg Int32.toInt c_11
  have j_13 := (QI_f (fun a i z => W_n W6 (by omega) rfl) (QI_f (fun a i z => W_n W2 (by omega) rfl) q1))
  have j_14 := (CS_f (fun a i z => W_n W6 (by omega) rfl) (CS_f (fun a i z => W_n W2 (by omega) rfl) q2))
  have c_15 : M7.2.1 1 9 = (M.2.1 1 9) := (W_n W6 (by omega) (W_n W2 (by omega) rfl))
  have t_16 : (M7.2.1 1 9).toInt = (M.2.1 1 9).toInt := congrArg Int32.toInt c_15
  have j_17 := (PLs_f (fun a i z => W_n W6 (by omega) rfl) (PLs_f (fun a i z => W_n W2 (by omega) rfl) q4))
  refine E_58 hX (by omega) hG8 hq hp (by omega) (by omega) (by omega) j_13 j_14 (by omega) j_17 (q := q) (p := p) (o := (0 : Int32)) (t := t) (nn := nn) (a := a) (sg := sg) (b := 0) (fun r18 M29 hG20 F19 p_21 p_22 p_23 p_24 p_25 p_26 p_27 p_28 => ?_)
  have F30 := FR.c F9 F19 tg_122
  have b_31 := g_b hG20 (a := q) (i := 4) (lo := 0) (hi := 40) (by rcases hq with rfl | rfl <;> rfl) (by rcases hq with rfl | rfl <;> rfl)
  rcases (show r18.toInt = 0 ∨ r18.toInt = 1 by (first | (clear p_25 p_26 p_27 p_28; omega) | omega)) with h32 | h32
  · skip
    have p_33 := p_27 (by (first | (clear p_25 p_26 p_27 p_28; omega) | omega))
    clear p_25 p_26 p_27 p_28
    have z_34 := (q_v (s := sg) rfl (show (0 : Int) = (M7.2.1 q 4).toInt by omega) rfl).trans p_33
    refine b_ieq_t (pc := 11) rw_57_11 (A := r18.toInt) rfl (by omega) (to_c (pc := 25) rw_57_25 (x := (0 : Int32)) rfl rfl (s_r1 (pc := 26) rw_57_26 (A := 0) rfl (by decide) ?_))
    exact h (0 : Int32) M29 hG20 F30 (by decide) (by decide) p_23 p_24 (by omega) (fun z => by exfalso; omega) (fun _ => inl_e (by omega) (by omega) z_34)
  · skip
    have p_35 := p_25 (by (first | (clear p_25 p_26 p_27 p_28; omega) | omega))
    have p_36 := p_26 (by (first | (clear p_25 p_26 p_27 p_28; omega) | omega))
    have p_37 := p_28 (by (first | (clear p_25 p_26 p_27 p_28; omega) | omega))
    clear p_25 p_26 p_27 p_28
    have z_38 := (q_v (s := sg) rfl (show (0 : Int) = (M7.2.1 q 4).toInt by omega) rfl).trans p_36
    have c_39 := CS_u p_24 (a := (M29.2.1 1 9).toInt) (by omega)
    unfold x_C at c_39
    have z_40 := x_kx_q (x_val t nn (M29.2.1 1 9).toInt)
    refine b_ieq_f (pc := 11) rw_57_11 (A := r18.toInt) rfl (by omega) (to_an (pc := 14) rw_57_14 rfl (s_v (pc := 15) rw_57_15 (dp0 hd (by decide)) (ls0 := [.ref 1]) rfl (Nat.le_of_ble_eq_true rfl) (Nat.le_of_ble_eq_true rfl) rfl (to_rc rfl rfl rfl (g_o hG20 rfl)) rfl (to_an (pc := 0) rw_87_0 rfl (tt_gI (pc := 1) rw_87_1 (g_o hG20 rfl) (v := (M29.2.1 1 7)) rfl (b_ieq (pc := 4) rw_87_4 (A := (M29.2.1 1 7).toInt) rfl (fun h41 => ?_) (fun h41 => ?_))))))
    · refine to_c (pc := 15) rw_87_15 (x := (1 : Int32)) rfl rfl (to_go (pc := 16) rw_87_16 (s_r1 (pc := 20) rw_87_20 (A := 1) rfl (by decide) (b_ieq_f (pc := 18) rw_57_18 (A := 1) rfl (by decide) (to_c (pc := 21) rw_57_21 (x := (1 : Int32)) rfl rfl (to_go (pc := 22) rw_57_22 (s_r1 (pc := 26) rw_57_26 (A := 1) rfl (by decide) ?_))))))
      have k_42 : (1 : Int32).toInt = 1 := rfl
      exact h (1 : Int32) M29 hG20 F30 (by decide) (by decide) p_23 p_24 (by omega) (fun _ => (z_38.trans (q_end (by omega) (by omega) (by omega) rfl)).trans (congrArg Sum.inr (by omega))) (fun z => by exfalso; omega)
    · refine to_an (pc := 7) rw_87_7 rfl (to_c (pc := 8) rw_87_8 (x := (1 : Int32)) rfl rfl (s_v (pc := 9) rw_87_9 (dp1 hd (by decide)) (ls0 := [.ref 1, .int (1 : Int32)]) rfl (Nat.le_of_ble_eq_true rfl) (Nat.le_of_ble_eq_true rfl) rfl (to_rc rfl rfl rfl (g_o hG20 rfl)) rfl (to_an (pc := 0) rw_84_0 rfl (to_in (pc := 1) rw_84_1 rfl (s_pI (pc := 2) rw_84_2 hG20 rfl (fun M44 W43 => ?_))))))
      have hG45 := g_wf hG20 W43 rfl rfl (by decide)
      have F46 := FR.w F30 W43 (show 1 = 1 ∧ 5 ≤ 10 ∨ 3 ≤ 1 ∧ 1 ≤ 5 ∨ 67 ≤ 1 ∧ 1 ≤ 76 by decide)
      refine to_an (pc := 5) rw_84_5 rfl (to_an (pc := 6) rw_84_6 rfl ?_)
      have c_47 : M44.2.1 1 9 = (M29.2.1 1 9) := (W_n W43 (by decide) rfl)
      refine tt_gI (pc := 7) rw_84_7 (g_o hG45 rfl) (v := (M29.2.1 1 9)) c_47 (s_pI (pc := 10) rw_84_10 hG45 rfl (fun M49 W48 => ?_))
      have hG50 := g_wf hG45 W48 rfl rfl (by decide)
      have F51 := FR.w F46 W48 (show 1 = 1 ∧ 5 ≤ 11 ∨ 3 ≤ 1 ∧ 1 ≤ 5 ∨ 67 ≤ 1 ∧ 1 ≤ 76 by decide)
      refine to_c (pc := 13) rw_84_13 (x := (0 : Int32)) rfl rfl (s_r1 (pc := 14) rw_84_14 (A := 0) rfl (by decide) (b_ieq_t (pc := 12) rw_87_12 (A := 0) rfl (by decide) (to_c (pc := 19) rw_87_19 (x := (0 : Int32)) rfl rfl (s_r1 (pc := 20) rw_87_20 (A := 0) rfl (by decide) (b_ieq_t (pc := 18) rw_57_18 (A := 0) rfl (by decide) (to_c (pc := 25) rw_57_25 (x := (0 : Int32)) rfl rfl (s_r1 (pc := 26) rw_57_26 (A := 0) rfl (by decide) ?_)))))))
      have j_52 := (QI_f (fun a i z => W_n W48 (tg_119 a i z) rfl) (QI_f (fun a i z => W_n W43 (tg_120 a i z) rfl) p_23))
      have j_53 := (CS_f (fun a i z => W_n W48 (tg_32 a i z) rfl) (CS_f (fun a i z => W_n W43 (tg_33 a i z) rfl) p_24))
      have c_54 : M49.2.1 q 4 = (M29.2.1 q 4) := (W_n W48 (by (first | (clear h41; omega) | omega)) (W_n W43 (by (first | (clear h41; omega) | omega)) rfl))
      have t_55 : (M49.2.1 q 4).toInt = (M29.2.1 q 4).toInt := congrArg Int32.toInt c_54
      have c_56 : M49.2.1 1 10 = (1 : Int32) := (W_n W48 (by decide) (W_e W43))
      have k_57 : (1 : Int32).toInt = 1 := rfl
      have t_58 : (M49.2.1 1 10).toInt = (1 : Int32).toInt := congrArg Int32.toInt c_56
      have c_59 : M49.2.1 1 11 = (M29.2.1 1 9) := (W_e W48)
      have t_60 : (M49.2.1 1 11).toInt = (M29.2.1 1 9).toInt := congrArg Int32.toInt c_59
      exact h (0 : Int32) M49 hG50 F51 (by decide) (by decide) j_52 j_53 (by (first | (clear h41; omega) | omega)) (fun z => by exfalso; omega) (fun _ => inl_e (by (first | (clear h41; omega) | omega)) (by (first | (clear h41; omega) | omega)) (z_38.trans (q_1x (by (first | (clear h41; omega) | omega)) (by (first | (clear h41; omega) | omega)) (by (first | (clear h41; omega) | omega)) (by (first | (clear h41; omega) | omega)) (by (first | (clear h41; omega) | omega)))))
