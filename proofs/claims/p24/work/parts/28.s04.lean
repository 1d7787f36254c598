noncomputable def RE_58 (k : Int) : Prop := ∀ (X : mm_X) (d : Nat) (M : mm_M) (Q : Option Value → mm_M → Prop) (q : Nat) (p : Nat) (o : Int32) (t : Nat → Int) (nn : Int) (a : Int) (sg : x_S) (b : Int) (W9 : List Int) (P9 : x_GP), g_X X → (5 + 4 * (8 - o.toInt) ≤ (d : Int)) → g_G M → (q = 67 ∨ q = 72) → (p = 49 ∨ p = 58) → (0 ≤ o.toInt) → (o.toInt ≤ 8) → (o.toInt = b) → CS M t nn → ((M.2.1 1 9).toInt = a) → PLs M p sg → (LQc M q P9) → ((M.2.1 q 4).toInt = P9.2 + x_wc W9) → (∀ P : x_GP, x_bd 1 W9 P = (W9, P) ∧ x_bd 2 W9 P = (W9, P)) → 8 - o.toInt < k → (∀ (r : Int32) (M1 : mm_M), g_G M1 → FR (md_qq q) M M1 → (0 ≤ r.toInt) → (r.toInt ≤ 1) → CS M1 t nn → (r.toInt = 1 → (M.2.1 q 4).toInt < (M1.2.1 q 4).toInt) → ((r.toInt = 1 → ∃ P2 : x_GP, LQc M1 q P2 ∧ (M1.2.1 q 4).toInt = P2.2 + x_wc W9 ∧ x_gg t nn sg 0 b (M.2.1 q 4).toInt W9 P9 a = x_gg t nn sg 1 b (M1.2.1 q 4).toInt W9 P2 (M1.2.1 1 9).toInt)) → ((r.toInt = 0 → x_gg t nn sg 0 b (M.2.1 q 4).toInt W9 P9 a = Sum.inl ((M1.2.1 1 10).toInt, (M1.2.1 1 11).toInt))) → ((r.toInt = 1 → ¬ (x_kind t nn (M1.2.1 1 9).toInt = 1 ∧ x_kx (x_val t nn (M1.2.1 1 9).toInt) = 12) ∧ ¬ (x_kind t nn (M1.2.1 1 9).toInt = 1 ∧ x_kx (x_val t nn (M1.2.1 1 9).toInt) = 13))) → Q (some (.int r)) M1) → mm_T X d 58 0 [.ref q, .ref 1, .ref p, .int o, .null] [] M Q
set_option maxRecDepth 4000 in
set_option maxHeartbeats 0 in
theorem E_61 {X : mm_X} {d : Nat} {M : mm_M} {Q : Option Value → mm_M → Prop} {q : Nat} {p : Nat} {o : Int32} {t : Nat → Int} {nn : Int} {a : Int} {sg : x_S} {b : Int} {W9 : List Int} {P9 : x_GP} (hX : g_X X) (hd : 2 + 4 * (8 - o.toInt) ≤ (d : Int)) (hG : g_G M) (hq : q = 67 ∨ q = 72) (hp : p = 49 ∨ p = 58) (q1 : 0 ≤ o.toInt) (q2 : o.toInt ≤ 8) (q3 : o.toInt = b) (q4 : CS M t nn) (q5 : (M.2.1 1 9).toInt = a) (q6 : PLs M p sg) (q7 : LQc M q P9) (q8 : (M.2.1 q 4).toInt = P9.2 + x_wc W9) (q9 : x_kind t nn a = 4 ∧ x_val t nn a = 40) (hr : RE_58 (8 - o.toInt)) (h : ∀ (r : Int32) (M1 : mm_M), g_G M1 → FR (md_qq q) M M1 → (0 ≤ r.toInt) → (r.toInt ≤ 1) → CS M1 t nn → (r.toInt = 1 → (M.2.1 q 4).toInt < (M1.2.1 q 4).toInt) → ((r.toInt = 1 → ∃ P2 : x_GP, LQc M1 q P2 ∧ (M1.2.1 q 4).toInt = P2.2 + x_wc W9 ∧ x_gg t nn sg 0 b (M.2.1 q 4).toInt W9 P9 a = x_gg t nn sg 1 b (M1.2.1 q 4).toInt W9 P2 (M1.2.1 1 9).toInt)) → ((r.toInt = 0 → x_gg t nn sg 0 b (M.2.1 q 4).toInt W9 P9 a = Sum.inl ((M1.2.1 1 10).toInt, (M1.2.1 1 11).toInt))) → Q (some (.int r)) M1) : mm_T X d 61 0 [.ref q, .ref 1, .ref p, .int o] [] M Q := by
  have F0 : FR (md_qq q) M M := FR.rf
  have b_1 := g_b hG (a := q) (i := 4) (lo := 0) (hi := 40) (by rcases hq with rfl | rfl <;> rfl) (by rcases hq with rfl | rfl <;> rfl)
  have c_2 := CS_u q4 (a := a) (by omega)
  unfold x_C at c_2
  have z_3 := x_wc_b W9
  have z_4 := x_wc_0 (W := W9)
  refine to_in (pc := 0) rw_61_0 rfl (to_c (pc := 1) rw_61_1 (x := (8 : Int32)) rfl rfl (b_clt (pc := 3) rw_61_3 (A := o.toInt) (B := 8) rfl rfl (fun h5 => ?_) (fun h5 => ?_)))
  · refine to_an (pc := 12) rw_61_12 rfl (s_v (pc := 13) rw_61_13 (by omega) (ls0 := [.ref 1]) rfl (Nat.le_of_ble_eq_true rfl) (Nat.le_of_ble_eq_true rfl) rfl (to_rc rfl rfl rfl (g_o hG rfl)) rfl (E_83 hX (by omega) hG q4 (by omega) (t := t) (nn := nn) (a := a) (fun M10 hG7 F6 p_8 p_9 => ?_)))
    have F11 := FR.c F0 F6 (fun a i z => show a = 1 ∧ 5 ≤ i ∨ 3 ≤ a ∧ a ≤ 5 ∨ q ≤ a ∧ a ≤ q + 4 by have z : a = 1 ∧ 6 ≤ i ∧ i ≤ 9 := z; omega)
    have z_12 := (g_lp (t := t) (nn := nn) (s := sg) (br := b) (cn := (M.2.1 q 4).toInt) (W := W9) (P := P9) (a := a) (by omega) (by omega) q9 (by omega))
    refine to_an (pc := 16) rw_61_16 rfl (to_an (pc := 17) rw_61_17 rfl (to_an (pc := 18) rw_61_18 rfl (to_in (pc := 19) rw_61_19 rfl (to_c (pc := 20) rw_61_20 (x := (1 : Int32)) rfl rfl (s_add (pc := 21) rw_61_21 (A := o.toInt) (B := 1) rfl rfl (by omega) (fun v13 e14 => s_v (pc := 22) rw_61_22 (by omega) (ls0 := [.ref q, .ref 1, .ref p, .int v13, .null]) rfl (Nat.le_of_ble_eq_true rfl) (Nat.le_of_ble_eq_true rfl) rfl (to_rc rfl rfl rfl (g_o hG7 (by rcases hq with rfl | rfl <;> rfl))) rfl ?_))))))
    have c_15 : M10.2.1 q 4 = (M.2.1 q 4) := (F_n F6 (show ¬ (q = 1 ∧ 6 ≤ 4 ∧ 4 ≤ 9) by omega) rfl)
    have t_16 : (M10.2.1 q 4).toInt = (M.2.1 q 4).toInt := congrArg Int32.toInt c_15
    have j_17 := (PLs_f (fun a i z => F_n F6 (show ¬ (a = 1 ∧ 6 ≤ i ∧ i ≤ 9) by omega) rfl) q6)
    have z_18 := LQc_f (fun a i z => (F_n F6 (show ¬ (a = 1 ∧ 6 ≤ i ∧ i ≤ 9) by omega) rfl)) q7
    refine hr X _ _ _ q p v13 t nn (x_ns t nn a) sg (b + 1) (0 :: W9) P9 hX (by omega) hG7 hq hp (by omega) (by omega) (by omega) p_8 (by omega) j_17 z_18 (by omega) (fun P => ⟨bd_0 (by decide), bd_0 (by decide)⟩) (by omega) (fun r19 M29 hG21 F20 p_22 p_23 p_24 p_25 p_26 p_27 p_28 => ?_)
    have F30 := FR.c F11 F20 (fun a i z => show a = 1 ∧ 5 ≤ i ∨ 3 ≤ a ∧ a ≤ 5 ∨ q ≤ a ∧ a ≤ q + 4 by have z : a = 1 ∧ 5 ≤ i ∨ 3 ≤ a ∧ a ≤ 5 ∨ q ≤ a ∧ a ≤ q + 4 := z; omega)
    have b_31 := g_b hG21 (a := q) (i := 4) (lo := 0) (hi := 40) (by rcases hq with rfl | rfl <;> rfl) (by rcases hq with rfl | rfl <;> rfl)
    rcases (show r19.toInt = 0 ∨ r19.toInt = 1 by omega) with h32 | h32
    · skip
      have p_33 := p_27 (by omega)
      clear p_25 p_26 p_27 p_28
      have z_34 := z_12.trans ((g_v rfl rfl (show (M.2.1 q 4).toInt = (M10.2.1 q 4).toInt by omega) rfl rfl).trans p_33)
      refine b_ieq_t (pc := 25) rw_61_25 (A := r19.toInt) rfl (by omega) (to_c (pc := 41) rw_61_41 (x := (0 : Int32)) rfl rfl (s_r1 (pc := 42) rw_61_42 (A := 0) rfl (by decide) ?_))
      have k_35 : (0 : Int32).toInt = 0 := rfl
      exact h (0 : Int32) M29 hG21 F30 (by decide) (by decide) p_24 (by omega) (fun z => by exfalso; omega) (fun _ => ginl (by omega) (by omega) z_34)
    · skip
      have p_36 := p_25 (by omega)
      have p_37 := p_26 (by omega)
      have p_38 := p_28 (by omega)
      clear p_25 p_26 p_27 p_28
      obtain ⟨P39, P39a, P39b, P39c⟩ := p_37
      have z_40 := P39a.1
      have z_41 := z_12.trans ((g_v rfl rfl (show (M.2.1 q 4).toInt = (M10.2.1 q 4).toInt by omega) rfl rfl).trans P39c)
      have c_42 := CS_u p_24 (a := (M29.2.1 1 9).toInt) (by omega)
      unfold x_C at c_42
      refine b_ieq_f (pc := 25) rw_61_25 (A := r19.toInt) rfl (by omega) (to_an (pc := 28) rw_61_28 rfl (to_c (pc := 29) rw_61_29 (x := (41 : Int32)) rfl rfl (s_v (pc := 31) rw_61_31 (by omega) (ls0 := [.ref 1, .int (41 : Int32)]) rfl (Nat.le_of_ble_eq_true rfl) (Nat.le_of_ble_eq_true rfl) rfl (to_rc rfl rfl rfl (g_o hG21 rfl)) rfl ?_)))
      have k_43 : (41 : Int32).toInt = 41 := rfl
      refine E_90s hX (by omega) hG21 p_24 (by omega) (by omega) (c := (41 : Int32)) (t := t) (nn := nn) (a := (M29.2.1 1 9).toInt) (fun r44 M53 hG46 F45 p_47 p_48 p_49 p_50 p_51 p_52 => ?_)
      have F54 := FR.c F30 F45 (fun a i z => show a = 1 ∧ 5 ≤ i ∨ 3 ≤ a ∧ a ≤ 5 ∨ q ≤ a ∧ a ≤ q + 4 by have z : a = 1 ∧ 6 ≤ i ∧ i ≤ 11 := z; omega)
      rcases (show r44.toInt = 0 ∨ r44.toInt = 1 by (first | (clear p_50 p_51 p_52; omega) | omega)) with h55 | h55
      · skip
        have p_56 := p_51 (by (first | (clear p_50 p_51 p_52; omega) | omega))
        have p_57 := p_52 (by (first | (clear p_50 p_51 p_52; omega) | omega))
        clear p_50 p_51 p_52
        have z_58 := z_41.trans (g_1x (by (first | (clear p_50 p_51 p_52; omega) | omega)) (by (first | (clear p_50 p_51 p_52; omega) | omega)) (by (first | (clear p_50 p_51 p_52; omega) | omega)) (by (first | (clear p_50 p_51 p_52; omega) | omega)) (by (first | (clear p_50 p_51 p_52; omega) | omega)))
        refine b_ieq_t (pc := 34) rw_61_34 (A := r44.toInt) rfl (by (first | (clear p_50 p_51 p_52; omega) | omega)) (to_c (pc := 41) rw_61_41 (x := (0 : Int32)) rfl rfl (s_r1 (pc := 42) rw_61_42 (A := 0) rfl (by decide) ?_))
        have k_59 : (0 : Int32).toInt = 0 := rfl
        have c_60 : M53.2.1 q 4 = (M29.2.1 q 4) := (F_n F45 (show ¬ (q = 1 ∧ 6 ≤ 4 ∧ 4 ≤ 11) by (first | (clear p_50 p_51 p_52; omega) | omega)) rfl)
        have t_61 : (M53.2.1 q 4).toInt = (M29.2.1 q 4).toInt := congrArg Int32.toInt c_60
        exact h (0 : Int32) M53 hG46 F54 (by decide) (by decide) p_49 (by (first | (clear p_50 p_51 p_52; omega) | omega)) (fun z => by exfalso; omega) (fun _ => ginl (by (first | (clear p_50 p_51 p_52; omega) | omega)) (by (first | (clear p_50 p_51 p_52; omega) | omega)) z_58)
      · skip
        have p_62 := p_50 (by (first | (clear p_50 p_51 p_52; omega) | omega))
        clear p_50 p_51 p_52
        have z_63 : x_gg t nn sg 0 b (M.2.1 q 4).toInt W9 P9 a = x_gg t nn sg 1 b (M29.2.1 q 4).toInt W9 P39 (x_ns t nn (M29.2.1 1 9).toInt) := z_41.trans ((g_rp (by (first | (clear p_50 p_51 p_52; omega) | omega)) (by (first | (clear p_50 p_51 p_52; omega) | omega)) (by (first | (clear p_50 p_51 p_52; omega) | omega)) (by (first | (clear p_50 p_51 p_52; omega) | omega))).trans (by rw [bd_0 (by decide)]; exact g_v rfl (show b + 1 - 1 = b by (first | (clear p_50 p_51 p_52; omega) | omega)) rfl rfl rfl))
        refine b_ieq_f (pc := 34) rw_61_34 (A := r44.toInt) rfl (by (first | (clear p_50 p_51 p_52; omega) | omega)) (to_c (pc := 37) rw_61_37 (x := (1 : Int32)) rfl rfl (to_go (pc := 38) rw_61_38 (s_r1 (pc := 42) rw_61_42 (A := 1) rfl (by decide) ?_)))
        have k_64 : (1 : Int32).toInt = 1 := rfl
        have c_65 : M53.2.1 q 4 = (M29.2.1 q 4) := (F_n F45 (show ¬ (q = 1 ∧ 6 ≤ 4 ∧ 4 ≤ 11) by (first | (clear p_50 p_51 p_52; omega) | omega)) rfl)
        have t_66 : (M53.2.1 q 4).toInt = (M29.2.1 q 4).toInt := congrArg Int32.toInt c_65
        have z_67 := LQc_f (fun a i z => (F_n F45 (show ¬ (a = 1 ∧ 6 ≤ i ∧ i ≤ 11) by (first | (clear p_50 p_51 p_52; omega) | omega)) rfl)) P39a
        exact h (1 : Int32) M53 hG46 F54 (by decide) (by decide) p_49 (by (first | (clear p_50 p_51 p_52; omega) | omega)) (fun _ => ⟨P39, z_67, (by (first | (clear p_50 p_51 p_52; omega) | omega)), z_63.trans (g_v rfl rfl (show (M29.2.1 q 4).toInt = (M53.2.1 q 4).toInt by (first | (clear p_50 p_51 p_52; omega) | omega)) rfl (show (x_ns t nn (M29.2.1 1 9).toInt) = (M53.2.1 1 9).toInt by (first | (clear p_50 p_51 p_52; omega) | omega)))⟩) (fun z => by exfalso; omega)
  · refine to_an (pc := 6) rw_61_6 rfl (to_c (pc := 7) rw_61_7 (x := (2 : Int32)) rfl rfl (s_v (pc := 8) rw_61_8 (by omega) (ls0 := [.ref 1, .int (2 : Int32)]) rfl (Nat.le_of_ble_eq_true rfl) (Nat.le_of_ble_eq_true rfl) rfl (to_rc rfl rfl rfl (g_o hG rfl)) rfl (to_an (pc := 0) rw_84_0 rfl (to_in (pc := 1) rw_84_1 rfl (s_pI (pc := 2) rw_84_2 hG rfl (fun M69 W68 => ?_))))))
    have hG70 := g_wf hG W68 rfl rfl (by decide)
    have F71 := FR.w F0 W68 (show 1 = 1 ∧ 5 ≤ 10 ∨ 3 ≤ 1 ∧ 1 ≤ 5 ∨ q ≤ 1 ∧ 1 ≤ q + 4 by omega)
    refine to_an (pc := 5) rw_84_5 rfl (to_an (pc := 6) rw_84_6 rfl ?_)
    have c_72 : M69.2.1 1 9 = (M.2.1 1 9) := (W_n W68 (by decide) rfl)
    refine tt_gI (pc := 7) rw_84_7 (g_o hG70 rfl) (v := (M.2.1 1 9)) c_72 (s_pI (pc := 10) rw_84_10 hG70 rfl (fun M74 W73 => ?_))
    have hG75 := g_wf hG70 W73 rfl rfl (by decide)
    have F76 := FR.w F71 W73 (show 1 = 1 ∧ 5 ≤ 11 ∨ 3 ≤ 1 ∧ 1 ≤ 5 ∨ q ≤ 1 ∧ 1 ≤ q + 4 by omega)
    refine to_c (pc := 13) rw_84_13 (x := (0 : Int32)) rfl rfl (s_r1 (pc := 14) rw_84_14 (A := 0) rfl (by decide) (s_r1 (pc := 11) rw_61_11 (A := 0) rfl (by decide) ?_))
    have k_77 : (0 : Int32).toInt = 0 := rfl
    have j_78 := (CS_f (fun a i z => W_n W73 (tg_32 a i z) rfl) (CS_f (fun a i z => W_n W68 (tg_33 a i z) rfl) q4))
    have c_79 : M74.2.1 q 4 = (M.2.1 q 4) := (W_n W73 (by omega) (W_n W68 (by omega) rfl))
    have t_80 : (M74.2.1 q 4).toInt = (M.2.1 q 4).toInt := congrArg Int32.toInt c_79
    have c_81 : M74.2.1 1 10 = (2 : Int32) := (W_n W73 (by decide) (W_e W68))
    have k_82 : (2 : Int32).toInt = 2 := rfl
    have t_83 : (M74.2.1 1 10).toInt = (2 : Int32).toInt := congrArg Int32.toInt c_81
    have c_84 : M74.2.1 1 11 = (M.2.1 1 9) := (W_e W73)
    have t_85 : (M74.2.1 1 11).toInt = (M.2.1 1 9).toInt := congrArg Int32.toInt c_84
    exact h (0 : Int32) M74 hG75 F76 (by decide) (by decide) j_78 (by omega) (fun z => by exfalso; omega) (fun _ => ginl (by omega) (by omega) (g_lpx (by omega) (by omega) q9 (by omega)))
set_option maxRecDepth 4000 in
set_option maxHeartbeats 0 in
theorem U_60_0 {X : mm_X} {d : Nat} {M : mm_M} {Q : Option Value → mm_M → Prop} {q : Nat} {p : Nat} {o : Int32} {t : Nat → Int} {nn : Int} {a : Int} {sg : x_S} {b : Int} {W9 : List Int} {P9 : x_GP} (hX : g_X X) (hd : 3 + 4 * (8 - o.toInt) ≤ (d : Int)) (hq : q = 67 ∨ q = 72) (hp : p = 49 ∨ p = 58) (q1 : 0 ≤ o.toInt) (q2 : o.toInt ≤ 8) (q3 : o.toInt = b) (q4 : CS M t nn) (q5 : (M.2.1 1 9).toInt = a) (q6 : PLs M p sg) (q7 : LQc M q P9) (q8 : (M.2.1 q 4).toInt = P9.2 + x_wc W9) (hr : RE_58 (8 - o.toInt)) (h : ∀ (r : Int32) (M1 : mm_M), g_G M1 → FR (md_qq q) M M1 → (0 ≤ r.toInt) → (r.toInt ≤ 1) → CS M1 t nn → (r.toInt = 1 → (M.2.1 q 4).toInt < (M1.2.1 q 4).toInt) → ((r.toInt = 1 → ∃ P2 : x_GP, LQc M1 q P2 ∧ (M1.2.1 q 4).toInt = P2.2 + x_wc W9 ∧ x_gg t nn sg 0 b (M.2.1 q 4).toInt W9 P9 a = x_gg t nn sg 1 b (M1.2.1 q 4).toInt W9 P2 (M1.2.1 1 9).toInt)) → ((r.toInt = 0 → x_gg t nn sg 0 b (M.2.1 q 4).toInt W9 P9 a = Sum.inl ((M1.2.1 1 10).toInt, (M1.2.1 1 11).toInt))) → Q (some (.int r)) M1) : ∀ nn9 : Nat, (∀ (N : mm_M) (u1 : Value) (u2 : Value) (u3 : Value) (x4 : Int32) (x5 : Int32) (x6 : Int32), g_G N → FR (md_qq q) M N → (0 ≤ x6.toInt) → (x6.toInt ≤ 41) → (0 ≤ x4.toInt) → (x4.toInt ≤ 41) → (0 ≤ x5.toInt) → (x5.toInt ≤ 1) → (CS N t nn) → (PLs N p sg) → (x5.toInt = 1 → (M.2.1 q 4).toInt < (N.2.1 q 4).toInt) → ((x5.toInt = 1 → ∃ P2 : x_GP, LQc N q P2 ∧ (N.2.1 q 4).toInt = P2.2 + (x4.toInt - x6.toInt) + x_wc W9 ∧ x6.toInt ≤ x4.toInt ∧ x_gg t nn sg 0 b (M.2.1 q 4).toInt W9 P9 a = x_gg t nn sg 1 b (N.2.1 q 4).toInt (x_2s (x4.toInt - x6.toInt).toNat W9) P2 (N.2.1 1 9).toInt)) → ((x5.toInt = 0 → x_gg t nn sg 0 b (M.2.1 q 4).toInt W9 P9 a = Sum.inl ((N.2.1 1 10).toInt, (N.2.1 1 11).toInt))) → 41 - x6.toInt < (nn9 : Int) → mm_T X d 60 65 [.ref q, u1, u2, u3, .int x4, .int x5, .int x6] [] N Q) := by
  intro nn9
  induction nn9 with
  | zero =>
    intro N u1 u2 u3 x4 x5 x6 hG F0 g1 g2 g3 g4 g5 g6 g7 g8 g9 g10 g11 hm
    have b_1 := g_b hG (a := q) (i := 4) (lo := 0) (hi := 40) (by rcases hq with rfl | rfl <;> rfl) (by rcases hq with rfl | rfl <;> rfl)
    exfalso; omega
  | succ nn9 ih =>
    intro N u1 u2 u3 x4 x5 x6 hG F0 g1 g2 g3 g4 g5 g6 g7 g8 g9 g10 g11 hm
    have b_2 := g_b hG (a := q) (i := 4) (lo := 0) (hi := 40) (by rcases hq with rfl | rfl <;> rfl) (by rcases hq with rfl | rfl <;> rfl)
    have z_3 := x_wc_b W9
    have c_4 := CS_u g7 (a := (N.2.1 1 9).toInt) (by (first | (clear g9 g10 g11; omega) | omega))
    unfold x_C at c_4
    have z_5 := x_kx_q (x_val t nn (N.2.1 1 9).toInt)
    refine to_i (pc := 65) rw_60_65 rfl (to_i (pc := 67) rw_60_67 rfl (b_cge (pc := 69) rw_60_69 (A := x6.toInt) (B := x4.toInt) rfl rfl (fun h6 => ?_) (fun h6 => ?_)))
    · refine to_i (pc := 90) rw_60_90 rfl (s_r1 (pc := 92) rw_60_92 (A := x5.toInt) rfl (by (first | (clear g9 g10 g11; omega) | omega)) ?_)
      exact h x5 N hG F0 (by (first | (clear g9 g10 g11; omega) | omega)) (by (first | (clear g9 g10 g11; omega) | omega)) g7 (by (first | (clear g9 g10 g11; omega) | omega)) (fun z => by obtain ⟨P2, a1, a2, a3, a4⟩ := g10 (by (first | (clear g9 g10 g11; omega) | omega)); exact ⟨P2, a1, by (first | (clear g9 g10 g11; omega) | omega), a4.trans (g_v rfl rfl (by (first | (clear g9 g10 g11; omega) | omega)) (x_2s_0 (by (first | (clear g9 g10 g11; omega) | omega))) (by (first | (clear g9 g10 g11; omega) | omega)))⟩) (fun z => ginl (by (first | (clear g9 g10 g11; omega) | omega)) (by (first | (clear g9 g10 g11; omega) | omega)) (g11 (by (first | (clear g9 g10 g11; omega) | omega))))
    · refine to_i (pc := 72) rw_60_72 rfl (b_ieq (pc := 74) rw_60_74 (A := x5.toInt) rfl (fun h7 => ?_) (fun h7 => ?_))
      · refine to_i (pc := 90) rw_60_90 rfl (s_r1 (pc := 92) rw_60_92 (A := x5.toInt) rfl (by (first | (clear g9 g10 g11; omega) | omega)) ?_)
        exact h x5 N hG F0 (by (first | (clear g9 g10 g11; omega) | omega)) (by (first | (clear g9 g10 g11; omega) | omega)) g7 (by (first | (clear g9 g10 g11; omega) | omega)) (fun z => by obtain ⟨P2, a1, a2, a3, a4⟩ := g10 (by (first | (clear g9 g10 g11; omega) | omega)); exact ⟨P2, a1, by (first | (clear g9 g10 g11; omega) | omega), a4.trans (g_v rfl rfl (by (first | (clear g9 g10 g11; omega) | omega)) (x_2s_0 (by (first | (clear g9 g10 g11; omega) | omega))) (by (first | (clear g9 g10 g11; omega) | omega)))⟩) (fun z => ginl (by (first | (clear g9 g10 g11; omega) | omega)) (by (first | (clear g9 g10 g11; omega) | omega)) (g11 (by (first | (clear g9 g10 g11; omega) | omega))))
      · refine to_an (pc := 77) rw_60_77 rfl (to_c (pc := 78) rw_60_78 (x := (2 : Int32)) rfl rfl (to_c (pc := 79) rw_60_79 (x := (0 : Int32)) rfl rfl (to_c (pc := 80) rw_60_80 (x := (0 : Int32)) rfl rfl (s_v (pc := 81) rw_60_81 (by (first | (clear g9 g10 g11 h7; omega) | (clear g9 g10 g11; omega) | omega)) (ls0 := [.ref q, .int (2 : Int32), .int (0 : Int32), .int (0 : Int32)]) rfl (Nat.le_of_ble_eq_true rfl) (Nat.le_of_ble_eq_true rfl) rfl (to_rc rfl rfl rfl (g_o hG (by rcases hq with rfl | rfl <;> rfl))) rfl ?_))))
        have k_8 : (2 : Int32).toInt = 2 := rfl
        have k_9 : (0 : Int32).toInt = 0 := rfl
        obtain ⟨Pm, m1, m2, m3, m4⟩ := g10 (by (first | (clear g9 g10 g11 h7; omega) | (clear g9 g10 g11; omega) | omega))
        have z_10 := m1.1
        refine E_64 hX (by (first | (clear g9 g10 g11 h7; omega) | (clear g9 g10 g11; omega) | omega)) hG hq (by (first | (clear g9 g10 g11 h7; omega) | (clear g9 g10 g11; omega) | omega)) (by (first | (clear g9 g10 g11 h7; omega) | (clear g9 g10 g11; omega) | omega)) (by (first | (clear g9 g10 g11 h7; omega) | (clear g9 g10 g11; omega) | omega)) (by (first | (clear g9 g10 g11 h7; omega) | (clear g9 g10 g11; omega) | omega)) m1 (by (first | (clear g9 g10 g11 h7; omega) | (clear g9 g10 g11; omega) | omega)) (q := q) (k := (2 : Int32)) (f := (0 : Int32)) (s := (0 : Int32)) (P9 := P9) (fun M14 hG12 F11 p_13 => ?_)
        have F15 := FR.c F0 F11 (fun a i z => show a = 1 ∧ 5 ≤ i ∨ 3 ≤ a ∧ a ≤ 5 ∨ q ≤ a ∧ a ≤ q + 4 by have z : a = q ∧ i = 5 ∨ q + 1 ≤ a ∧ a ≤ q + 3 := z; omega)
        have z_16 := LQc_v (k2 := 2) (f2 := 0) (s2 := 0) rfl rfl rfl p_13
        have z_17 := x_kn1_2 (P := Pm) (k := 2) (a := 0) (b := 0)
        refine s_inc (pc := 84) rw_60_84 (ls2 := fun v => [.ref q, u1, u2, u3, .int x4, .int x5, .int v]) rfl rfl (fun _ => rfl) (A := x6.toInt) (B := 1) rfl rfl (by (first | (clear g9 g10 g11 h7; omega) | (clear g9 g10 g11; omega) | omega)) (fun v18 e19 => to_go (pc := 87) rw_60_87 ?_)
        have j_20 := (CS_f (fun a i z => F_n F11 (show ¬ (a = q ∧ i = 5 ∨ q + 1 ≤ a ∧ a ≤ q + 3) by (first | (clear g9 g10 g11 h7; omega) | (clear g9 g10 g11; omega) | omega)) rfl) g7)
        have j_21 := (PLs_f (fun a i z => F_n F11 (show ¬ (a = q ∧ i = 5 ∨ q + 1 ≤ a ∧ a ≤ q + 3) by (first | (clear g9 g10 g11 h7; omega) | (clear g9 g10 g11; omega) | omega)) rfl) g8)
        have c_22 : M14.2.1 q 4 = (N.2.1 q 4) := (F_n F11 (show ¬ (q = q ∧ 4 = 5 ∨ q + 1 ≤ q ∧ q ≤ q + 3) by (first | (clear g9 g10 g11 h7; omega) | (clear g9 g10 g11; omega) | omega)) rfl)
        have t_23 : (M14.2.1 q 4).toInt = (N.2.1 q 4).toInt := congrArg Int32.toInt c_22
        have c_24 : M14.2.1 1 9 = (N.2.1 1 9) := (F_n F11 (show ¬ (1 = q ∧ 9 = 5 ∨ q + 1 ≤ 1 ∧ 1 ≤ q + 3) by (first | (clear g9 g10 g11 h7; omega) | (clear g9 g10 g11; omega) | omega)) rfl)
        have t_25 : (M14.2.1 1 9).toInt = (N.2.1 1 9).toInt := congrArg Int32.toInt c_24
        have c_26 : M14.2.1 1 10 = (N.2.1 1 10) := (F_n F11 (show ¬ (1 = q ∧ 10 = 5 ∨ q + 1 ≤ 1 ∧ 1 ≤ q + 3) by (first | (clear g9 g10 g11 h7; omega) | (clear g9 g10 g11; omega) | omega)) rfl)
        have t_27 : (M14.2.1 1 10).toInt = (N.2.1 1 10).toInt := congrArg Int32.toInt c_26
        have c_28 : M14.2.1 1 11 = (N.2.1 1 11) := (F_n F11 (show ¬ (1 = q ∧ 11 = 5 ∨ q + 1 ≤ 1 ∧ 1 ≤ q + 3) by (first | (clear g9 g10 g11 h7; omega) | (clear g9 g10 g11; omega) | omega)) rfl)
        have t_29 : (M14.2.1 1 11).toInt = (N.2.1 1 11).toInt := congrArg Int32.toInt c_28
        exact ih M14 (u1) (u2) (u3) x4 x5 v18 hG12 F15 (by (first | (clear g9 g10 g11 h7; omega) | (clear g9 g10 g11; omega) | omega)) (by (first | (clear g9 g10 g11 h7; omega) | (clear g9 g10 g11; omega) | omega)) (by (first | (clear g9 g10 g11 h7; omega) | (clear g9 g10 g11; omega) | omega)) (by (first | (clear g9 g10 g11 h7; omega) | (clear g9 g10 g11; omega) | omega)) (by (first | (clear g9 g10 g11 h7; omega) | (clear g9 g10 g11; omega) | omega)) (by (first | (clear g9 g10 g11 h7; omega) | (clear g9 g10 g11; omega) | omega)) j_20 j_21 (by (first | (clear g9 g10 g11 h7; omega) | (clear g9 g10 g11; omega) | omega)) (fun z => ⟨x_kn1 Pm 2 0 0, z_16, (by (first | (clear g9 g10 g11 h7; omega) | (clear g9 g10 g11; omega) | omega)), (by (first | (clear g9 g10 g11 h7; omega) | (clear g9 g10 g11; omega) | omega)), m4.trans ((g_v rfl rfl rfl (x_2s_s (n := x4.toInt - v18.toInt) (by (first | (clear g9 g10 g11 h7; omega) | (clear g9 g10 g11; omega) | omega)) (by (first | (clear g9 g10 g11 h7; omega) | (clear g9 g10 g11; omega) | omega))).symm rfl).trans ((g_b2 (by (first | (clear g9 g10 g11 h7; omega) | (clear g9 g10 g11; omega) | omega)) (by (first | (clear g9 g10 g11 h7; omega) | (clear g9 g10 g11; omega) | omega)) (Or.inl rfl)).trans (g_v rfl rfl (by (first | (clear g9 g10 g11 h7; omega) | (clear g9 g10 g11; omega) | omega)) rfl (by (first | (clear g9 g10 g11 h7; omega) | (clear g9 g10 g11; omega) | omega)))))⟩) (fun z => ginl (by (first | (clear g9 g10 g11 h7; omega) | (clear g9 g10 g11; omega) | omega)) (by (first | (clear g9 g10 g11 h7; omega) | (clear g9 g10 g11; omega) | omega)) (g11 (by (first | (clear g9 g10 g11 h7; omega) | (clear g9 g10 g11; omega) | omega)))) (by (first | (clear g9 g10 g11 h7; omega) | (clear g9 g10 g11; omega) | omega))
set_option maxRecDepth 4000 in
set_option maxHeartbeats 0 in
theorem U_60_1 {X : mm_X} {d : Nat} {M : mm_M} {Q : Option Value → mm_M → Prop} {q : Nat} {p : Nat} {o : Int32} {t : Nat → Int} {nn : Int} {a : Int} {sg : x_S} {b : Int} {W9 : List Int} {P9 : x_GP} (hX : g_X X) (hd : 3 + 4 * (8 - o.toInt) ≤ (d : Int)) (hq : q = 67 ∨ q = 72) (hp : p = 49 ∨ p = 58) (q1 : 0 ≤ o.toInt) (q2 : o.toInt ≤ 8) (q3 : o.toInt = b) (q4 : CS M t nn) (q5 : (M.2.1 1 9).toInt = a) (q6 : PLs M p sg) (q7 : LQc M q P9) (q8 : (M.2.1 q 4).toInt = P9.2 + x_wc W9) (hr : RE_58 (8 - o.toInt)) (h : ∀ (r : Int32) (M1 : mm_M), g_G M1 → FR (md_qq q) M M1 → (0 ≤ r.toInt) → (r.toInt ≤ 1) → CS M1 t nn → (r.toInt = 1 → (M.2.1 q 4).toInt < (M1.2.1 q 4).toInt) → ((r.toInt = 1 → ∃ P2 : x_GP, LQc M1 q P2 ∧ (M1.2.1 q 4).toInt = P2.2 + x_wc W9 ∧ x_gg t nn sg 0 b (M.2.1 q 4).toInt W9 P9 a = x_gg t nn sg 1 b (M1.2.1 q 4).toInt W9 P2 (M1.2.1 1 9).toInt)) → ((r.toInt = 0 → x_gg t nn sg 0 b (M.2.1 q 4).toInt W9 P9 a = Sum.inl ((M1.2.1 1 10).toInt, (M1.2.1 1 11).toInt))) → Q (some (.int r)) M1) : ∀ nn9 : Nat, (∀ (N : mm_M) (x4 : Int32) (u5 : Value) (u6 : Value), g_G N → FR (md_qq q) M N → (0 ≤ x4.toInt) → (x4.toInt ≤ 41) → (x4.toInt ≤ (N.2.1 q 4).toInt) → (o.toInt = o.toInt) → (CS N t nn) → (PLs N p sg) → ((M.2.1 q 4).toInt ≤ (N.2.1 q 4).toInt) → (LQc N q P9) → ((N.2.1 q 4).toInt = P9.2 + x4.toInt + x_wc W9) → (x_gg t nn sg 0 b (M.2.1 q 4).toInt W9 P9 a = x_gg t nn sg 0 b (N.2.1 q 4).toInt (x_2s (x4.toInt).toNat W9) P9 (N.2.1 1 9).toInt) → 41 - x4.toInt < (nn9 : Int) → mm_T X d 60 3 [.ref q, .ref 1, .ref p, .int o, .int x4, u5, u6] [] N Q) := by
  intro nn9
  induction nn9 with
  | zero =>
    intro N x4 u5 u6 hG F0 g1 g2 g3 g4 g5 g6 g7 g8 g9 g10 hm
    have b_30 := g_b hG (a := q) (i := 4) (lo := 0) (hi := 40) (by rcases hq with rfl | rfl <;> rfl) (by rcases hq with rfl | rfl <;> rfl)
    exfalso; omega
  | succ nn9 ih =>
    intro N x4 u5 u6 hG F0 g1 g2 g3 g4 g5 g6 g7 g8 g9 g10 hm
    have b_31 := g_b hG (a := q) (i := 4) (lo := 0) (hi := 40) (by rcases hq with rfl | rfl <;> rfl) (by rcases hq with rfl | rfl <;> rfl)
    have z_32 := x_wc_b W9
    have z_33 := g8.1
    have c_34 := CS_u g5 (a := (N.2.1 1 9).toInt) (by omega)
    unfold x_C at c_34
    have z_35 := x_kx_q (x_val t nn (N.2.1 1 9).toInt)
    have z_36 := x_wc_2i (n := x4.toInt) (W := W9) (by omega)
    have z_37 := x_wc_b (x_2s (x4.toInt).toNat W9)
    refine to_i (pc := 3) rw_60_3 rfl (to_c (pc := 5) rw_60_5 (x := (40 : Int32)) rfl rfl (b_cgt (pc := 7) rw_60_7 (A := x4.toInt) (B := 40) rfl rfl (fun h38 => ?_) (fun h38 => ?_)))
    · refine to_an (pc := 35) rw_60_35 rfl (tt_gI (pc := 36) rw_60_36 (g_o hG rfl) (v := (N.2.1 1 7)) rfl (to_c (pc := 39) rw_60_39 (x := (40 : Int32)) rfl rfl (b_cne (pc := 41) rw_60_41 (A := (N.2.1 1 7).toInt) (B := 40) rfl rfl (fun h39 => ?_) (fun h39 => ?_))))
      · refine to_an (pc := 54) rw_60_54 rfl (to_an (pc := 55) rw_60_55 rfl (to_an (pc := 56) rw_60_56 rfl (s_v (pc := 57) rw_60_57 (by (first | (clear h39; omega) | omega)) (ls0 := [.ref q, .ref 1, .ref p, .null, .null, .null, .null]) rfl (Nat.le_of_ble_eq_true rfl) (Nat.le_of_ble_eq_true rfl) rfl (to_rc rfl rfl rfl (g_o hG (by rcases hq with rfl | rfl <;> rfl))) rfl (E_62 hX (by (first | (clear h39; omega) | omega)) hG hq hp g5 (by (first | (clear h39; omega) | omega)) g6 g8 (by (first | (clear h39; omega) | omega)) (by (first | (clear h39; omega) | omega)) (by (first | (clear h39; omega) | omega)) (q := q) (p := p) (t := t) (nn := nn) (a := (N.2.1 1 9).toInt) (sg := sg) (b := b) (W9 := (x_2s (x4.toInt).toNat W9)) (P9 := P9) (fun r40 M49 hG42 F41 p_43 p_44 p_45 p_46 p_47 p_48 => ?_)))))
        have F50 := FR.c F0 F41 (fun a i z => show a = 1 ∧ 5 ≤ i ∨ 3 ≤ a ∧ a ≤ 5 ∨ q ≤ a ∧ a ≤ q + 4 by have z : a = 1 ∧ 5 ≤ i ∨ 3 ≤ a ∧ a ≤ 5 ∨ q ≤ a ∧ a ≤ q + 4 := z; omega)
        have b_51 := g_b hG42 (a := q) (i := 4) (lo := 0) (hi := 40) (by rcases hq with rfl | rfl <;> rfl) (by rcases hq with rfl | rfl <;> rfl)
        rcases (show r40.toInt = 0 ∨ r40.toInt = 1 by (first | (clear h39; omega) | omega)) with h52 | h52
        · skip
          have p_53 := p_48 (by (first | (clear h39; omega) | omega))
          clear p_46 p_47 p_48
          have z_54 := g10.trans p_53
          refine to_is (pc := 60) rw_60_60 (ls2 := [.ref q, .ref 1, .ref p, .int o, .int x4, .int r40, u6]) rfl rfl (to_c (pc := 62) rw_60_62 (x := (0 : Int32)) rfl rfl (to_is (pc := 63) rw_60_63 (ls2 := [.ref q, .ref 1, .ref p, .int o, .int x4, .int r40, .int (0 : Int32)]) rfl rfl ?_))
          have k_55 : (0 : Int32).toInt = 0 := rfl
          have j_56 := (PLs_f (fun a i z => F_n F41 (show ¬ (a = 1 ∧ 5 ≤ i ∨ 3 ≤ a ∧ a ≤ 5 ∨ q ≤ a ∧ a ≤ q + 4) by (first | (clear h39; omega) | omega)) rfl) g6)
          exact (U_60_0 (q := q) (p := p) (o := o) (t := t) (nn := nn) (a := a) (sg := sg) (b := b) (W9 := W9) (P9 := P9) hX hd hq hp q1 q2 q3 q4 q5 q6 q7 q8 hr h ((41 - (0 : Int32).toInt).toNat + 1)) M49 (.ref 1) (.ref p) (.int o) x4 r40 (0 : Int32) hG42 F50 (by (first | (clear h39; omega) | omega)) (by (first | (clear h39; omega) | omega)) (by (first | (clear h39; omega) | omega)) (by (first | (clear h39; omega) | omega)) (by (first | (clear h39; omega) | omega)) (by (first | (clear h39; omega) | omega)) p_45 j_56 (by (first | (clear h39; omega) | omega)) (fun z => by exfalso; omega) (fun _ => ginl (by (first | (clear h39; omega) | omega)) (by (first | (clear h39; omega) | omega)) z_54) (by (first | (clear h39; omega) | omega))
        · skip
          have p_57 := p_46 (by (first | (clear h39; omega) | omega))
          have p_58 := p_47 (by (first | (clear h39; omega) | omega))
          clear p_46 p_47 p_48
          obtain ⟨P59, P59a, P59b, P59c⟩ := p_58
          have z_60 := P59a.1
          have z_61 := g10.trans P59c
          refine to_is (pc := 60) rw_60_60 (ls2 := [.ref q, .ref 1, .ref p, .int o, .int x4, .int r40, u6]) rfl rfl (to_c (pc := 62) rw_60_62 (x := (0 : Int32)) rfl rfl (to_is (pc := 63) rw_60_63 (ls2 := [.ref q, .ref 1, .ref p, .int o, .int x4, .int r40, .int (0 : Int32)]) rfl rfl ?_))
          have k_62 : (0 : Int32).toInt = 0 := rfl
          have j_63 := (PLs_f (fun a i z => F_n F41 (show ¬ (a = 1 ∧ 5 ≤ i ∨ 3 ≤ a ∧ a ≤ 5 ∨ q ≤ a ∧ a ≤ q + 4) by (first | (clear h39; omega) | omega)) rfl) g6)
          exact (U_60_0 (q := q) (p := p) (o := o) (t := t) (nn := nn) (a := a) (sg := sg) (b := b) (W9 := W9) (P9 := P9) hX hd hq hp q1 q2 q3 q4 q5 q6 q7 q8 hr h ((41 - (0 : Int32).toInt).toNat + 1)) M49 (.ref 1) (.ref p) (.int o) x4 r40 (0 : Int32) hG42 F50 (by (first | (clear h39; omega) | omega)) (by (first | (clear h39; omega) | omega)) (by (first | (clear h39; omega) | omega)) (by (first | (clear h39; omega) | omega)) (by (first | (clear h39; omega) | omega)) (by (first | (clear h39; omega) | omega)) p_45 j_63 (by (first | (clear h39; omega) | omega)) (fun _ => ⟨P59, P59a, (by (first | (clear h39; omega) | omega)), (by (first | (clear h39; omega) | omega)), z_61.trans (g_v rfl rfl (by (first | (clear h39; omega) | omega)) (by rw [show x4.toInt - (0 : Int32).toInt = x4.toInt by (first | (clear h39; omega) | omega)]) (by (first | (clear h39; omega) | omega)))⟩) (fun z => by exfalso; omega) (by (first | (clear h39; omega) | omega))
      · refine to_an (pc := 44) rw_60_44 rfl (to_an (pc := 45) rw_60_45 rfl (to_an (pc := 46) rw_60_46 rfl (to_in (pc := 47) rw_60_47 rfl (s_v (pc := 48) rw_60_48 (by omega) (ls0 := [.ref q, .ref 1, .ref p, .int o]) rfl (Nat.le_of_ble_eq_true rfl) (Nat.le_of_ble_eq_true rfl) rfl (to_rc rfl rfl rfl (g_o hG (by rcases hq with rfl | rfl <;> rfl))) rfl (E_61 hX (by omega) hG hq hp (by omega) (by omega) (by omega) g5 (by omega) g6 g8 (by omega) (by omega) hr (q := q) (p := p) (o := o) (t := t) (nn := nn) (a := (N.2.1 1 9).toInt) (sg := sg) (b := b) (W9 := (x_2s (x4.toInt).toNat W9)) (P9 := P9) (fun r64 M73 hG66 F65 p_67 p_68 p_69 p_70 p_71 p_72 => ?_))))))
        have F74 := FR.c F0 F65 (fun a i z => show a = 1 ∧ 5 ≤ i ∨ 3 ≤ a ∧ a ≤ 5 ∨ q ≤ a ∧ a ≤ q + 4 by have z : a = 1 ∧ 5 ≤ i ∨ 3 ≤ a ∧ a ≤ 5 ∨ q ≤ a ∧ a ≤ q + 4 := z; omega)
        have b_75 := g_b hG66 (a := q) (i := 4) (lo := 0) (hi := 40) (by rcases hq with rfl | rfl <;> rfl) (by rcases hq with rfl | rfl <;> rfl)
        rcases (show r64.toInt = 0 ∨ r64.toInt = 1 by omega) with h76 | h76
        · skip
          have p_77 := p_72 (by omega)
          clear p_70 p_71 p_72
          have z_78 := g10.trans p_77
          refine to_go (pc := 51) rw_60_51 (to_is (pc := 60) rw_60_60 (ls2 := [.ref q, .ref 1, .ref p, .int o, .int x4, .int r64, u6]) rfl rfl (to_c (pc := 62) rw_60_62 (x := (0 : Int32)) rfl rfl (to_is (pc := 63) rw_60_63 (ls2 := [.ref q, .ref 1, .ref p, .int o, .int x4, .int r64, .int (0 : Int32)]) rfl rfl ?_)))
          have k_79 : (0 : Int32).toInt = 0 := rfl
          have j_80 := (PLs_f (fun a i z => F_n F65 (show ¬ (a = 1 ∧ 5 ≤ i ∨ 3 ≤ a ∧ a ≤ 5 ∨ q ≤ a ∧ a ≤ q + 4) by omega) rfl) g6)
          exact (U_60_0 (q := q) (p := p) (o := o) (t := t) (nn := nn) (a := a) (sg := sg) (b := b) (W9 := W9) (P9 := P9) hX hd hq hp q1 q2 q3 q4 q5 q6 q7 q8 hr h ((41 - (0 : Int32).toInt).toNat + 1)) M73 (.ref 1) (.ref p) (.int o) x4 r64 (0 : Int32) hG66 F74 (by omega) (by omega) (by omega) (by omega) (by omega) (by omega) p_69 j_80 (by omega) (fun z => by exfalso; omega) (fun _ => ginl (by omega) (by omega) z_78) (by omega)
        · skip
          have p_81 := p_70 (by omega)
          have p_82 := p_71 (by omega)
          clear p_70 p_71 p_72
          obtain ⟨P83, P83a, P83b, P83c⟩ := p_82
          have z_84 := P83a.1
          have z_85 := g10.trans P83c
          refine to_go (pc := 51) rw_60_51 (to_is (pc := 60) rw_60_60 (ls2 := [.ref q, .ref 1, .ref p, .int o, .int x4, .int r64, u6]) rfl rfl (to_c (pc := 62) rw_60_62 (x := (0 : Int32)) rfl rfl (to_is (pc := 63) rw_60_63 (ls2 := [.ref q, .ref 1, .ref p, .int o, .int x4, .int r64, .int (0 : Int32)]) rfl rfl ?_)))
          have k_86 : (0 : Int32).toInt = 0 := rfl
          have j_87 := (PLs_f (fun a i z => F_n F65 (show ¬ (a = 1 ∧ 5 ≤ i ∨ 3 ≤ a ∧ a ≤ 5 ∨ q ≤ a ∧ a ≤ q + 4) by omega) rfl) g6)
          exact (U_60_0 (q := q) (p := p) (o := o) (t := t) (nn := nn) (a := a) (sg := sg) (b := b) (W9 := W9) (P9 := P9) hX hd hq hp q1 q2 q3 q4 q5 q6 q7 q8 hr h ((41 - (0 : Int32).toInt).toNat + 1)) M73 (.ref 1) (.ref p) (.int o) x4 r64 (0 : Int32) hG66 F74 (by omega) (by omega) (by omega) (by omega) (by omega) (by omega) p_69 j_87 (by omega) (fun _ => ⟨P83, P83a, (by omega), (by omega), z_85.trans (g_v rfl rfl (by omega) (by rw [show x4.toInt - (0 : Int32).toInt = x4.toInt by omega]) (by omega))⟩) (fun z => by exfalso; omega) (by omega)
    · refine to_an (pc := 10) rw_60_10 rfl (to_c (pc := 11) rw_60_11 (x := (486146048 : Int32)) rfl rfl (s_v (pc := 13) rw_60_13 (by omega) (ls0 := [.ref 1, .int (486146048 : Int32)]) rfl (Nat.le_of_ble_eq_true rfl) (Nat.le_of_ble_eq_true rfl) rfl (to_rc rfl rfl rfl (g_o hG rfl)) rfl ?_))
      have k_88 : (486146048 : Int32).toInt = 486146048 := rfl
      refine E_86 hX (by omega) hG g5 (by omega) (x := (486146048 : Int32)) (t := t) (nn := nn) (a := (N.2.1 1 9).toInt) (fun r89 M96 hG91 F90 p_92 p_93 p_94 p_95 => ?_)
      have F97 := FR.c F0 F90 (fun a i z => show a = 1 ∧ 5 ≤ i ∨ 3 ≤ a ∧ a ≤ 5 ∨ q ≤ a ∧ a ≤ q + 4 by have z : a < 0 := z; omega)
      rcases (show r89.toInt = 0 ∨ r89.toInt = 1 by (first | (clear p_94 p_95; omega) | omega)) with h98 | h98
      · skip
        have p_99 := p_95 (by (first | (clear p_94 p_95; omega) | omega))
        clear p_94 p_95
        refine b_ieq_t (pc := 16) rw_60_16 (A := r89.toInt) rfl (by (first | (clear p_94 p_95; omega) | omega)) (to_an (pc := 35) rw_60_35 rfl ?_)
        have c_100 : M96.2.1 1 7 = (N.2.1 1 7) := (F_n F90 (show ¬ (1 < 0) by decide) rfl)
        refine tt_gI (pc := 36) rw_60_36 (g_o hG91 rfl) (v := (N.2.1 1 7)) c_100 (to_c (pc := 39) rw_60_39 (x := (40 : Int32)) rfl rfl (b_cne (pc := 41) rw_60_41 (A := (N.2.1 1 7).toInt) (B := 40) rfl rfl (fun h101 => ?_) (fun h101 => ?_)))
        · refine to_an (pc := 54) rw_60_54 rfl (to_an (pc := 55) rw_60_55 rfl (to_an (pc := 56) rw_60_56 rfl (s_v (pc := 57) rw_60_57 (by (first | (clear p_94 p_95 h101; omega) | (clear p_94 p_95; omega) | omega)) (ls0 := [.ref q, .ref 1, .ref p, .null, .null, .null, .null]) rfl (Nat.le_of_ble_eq_true rfl) (Nat.le_of_ble_eq_true rfl) rfl (to_rc rfl rfl rfl (g_o hG91 (by rcases hq with rfl | rfl <;> rfl))) rfl ?_)))
          have c_102 : M96.2.1 q 4 = (N.2.1 q 4) := (F_n F90 (show ¬ (q < 0) by (first | (clear p_94 p_95 h101; omega) | (clear p_94 p_95; omega) | omega)) rfl)
          have t_103 : (M96.2.1 q 4).toInt = (N.2.1 q 4).toInt := congrArg Int32.toInt c_102
          have j_104 := (CS_f (tg_28 F90) g5)
          have c_105 : M96.2.1 1 9 = (N.2.1 1 9) := (F_n F90 (show ¬ (1 < 0) by decide) rfl)
          have t_106 : (M96.2.1 1 9).toInt = (N.2.1 1 9).toInt := congrArg Int32.toInt c_105
          have j_107 := (PLs_f (fun a i z => F_n F90 (show ¬ (a < 0) by (first | (clear p_94 p_95 h101; omega) | (clear p_94 p_95; omega) | omega)) rfl) g6)
          have z_108 := LQc_f (fun a i z => (F_n F90 (show ¬ (a < 0) by (first | (clear p_94 p_95 h101; omega) | (clear p_94 p_95; omega) | omega)) rfl)) g8
          refine E_62 hX (by (first | (clear p_94 p_95 h101; omega) | (clear p_94 p_95; omega) | omega)) hG91 hq hp j_104 (by (first | (clear p_94 p_95 h101; omega) | (clear p_94 p_95; omega) | omega)) j_107 z_108 (by (first | (clear p_94 p_95 h101; omega) | (clear p_94 p_95; omega) | omega)) (by (first | (clear p_94 p_95 h101; omega) | (clear p_94 p_95; omega) | omega)) (by (first | (clear p_94 p_95 h101; omega) | (clear p_94 p_95; omega) | omega)) (q := q) (p := p) (t := t) (nn := nn) (a := (N.2.1 1 9).toInt) (sg := sg) (b := b) (W9 := (x_2s (x4.toInt).toNat W9)) (P9 := P9) (fun r109 M118 hG111 F110 p_112 p_113 p_114 p_115 p_116 p_117 => ?_)
          have F119 := FR.c F97 F110 (fun a i z => show a = 1 ∧ 5 ≤ i ∨ 3 ≤ a ∧ a ≤ 5 ∨ q ≤ a ∧ a ≤ q + 4 by have z : a = 1 ∧ 5 ≤ i ∨ 3 ≤ a ∧ a ≤ 5 ∨ q ≤ a ∧ a ≤ q + 4 := z; omega)
          have b_120 := g_b hG111 (a := q) (i := 4) (lo := 0) (hi := 40) (by rcases hq with rfl | rfl <;> rfl) (by rcases hq with rfl | rfl <;> rfl)
          rcases (show r109.toInt = 0 ∨ r109.toInt = 1 by (first | (clear p_94 p_95 h101 p_115 p_116 p_117; omega) | (clear p_94 p_95 p_115 p_116 p_117; omega) | omega)) with h121 | h121
          · skip
            have p_122 := p_117 (by (first | (clear p_94 p_95 h101 p_115 p_116 p_117; omega) | (clear p_94 p_95 p_115 p_116 p_117; omega) | omega))
            clear p_115 p_116 p_117
            have z_123 := g10.trans p_122
            refine to_is (pc := 60) rw_60_60 (ls2 := [.ref q, .ref 1, .ref p, .int o, .int x4, .int r109, u6]) rfl rfl (to_c (pc := 62) rw_60_62 (x := (0 : Int32)) rfl rfl (to_is (pc := 63) rw_60_63 (ls2 := [.ref q, .ref 1, .ref p, .int o, .int x4, .int r109, .int (0 : Int32)]) rfl rfl ?_))
            have k_124 : (0 : Int32).toInt = 0 := rfl
            have j_125 := (PLs_f (fun a i z => F_n F110 (show ¬ (a = 1 ∧ 5 ≤ i ∨ 3 ≤ a ∧ a ≤ 5 ∨ q ≤ a ∧ a ≤ q + 4) by (first | (clear p_94 p_95 h101 p_115 p_116 p_117; omega) | (clear p_94 p_95 p_115 p_116 p_117; omega) | omega)) rfl) j_107)
            exact (U_60_0 (q := q) (p := p) (o := o) (t := t) (nn := nn) (a := a) (sg := sg) (b := b) (W9 := W9) (P9 := P9) hX hd hq hp q1 q2 q3 q4 q5 q6 q7 q8 hr h ((41 - (0 : Int32).toInt).toNat + 1)) M118 (.ref 1) (.ref p) (.int o) x4 r109 (0 : Int32) hG111 F119 (by (first | (clear p_94 p_95 h101 p_115 p_116 p_117; omega) | (clear p_94 p_95 p_115 p_116 p_117; omega) | omega)) (by (first | (clear p_94 p_95 h101 p_115 p_116 p_117; omega) | (clear p_94 p_95 p_115 p_116 p_117; omega) | omega)) (by (first | (clear p_94 p_95 h101 p_115 p_116 p_117; omega) | (clear p_94 p_95 p_115 p_116 p_117; omega) | omega)) (by (first | (clear p_94 p_95 h101 p_115 p_116 p_117; omega) | (clear p_94 p_95 p_115 p_116 p_117; omega) | omega)) (by (first | (clear p_94 p_95 h101 p_115 p_116 p_117; omega) | (clear p_94 p_95 p_115 p_116 p_117; omega) | omega)) (by (first | (clear p_94 p_95 h101 p_115 p_116 p_117; omega) | (clear p_94 p_95 p_115 p_116 p_117; omega) | omega)) p_114 j_125 (by (first | (clear p_94 p_95 h101 p_115 p_116 p_117; omega) | (clear p_94 p_95 p_115 p_116 p_117; omega) | omega)) (fun z => by exfalso; omega) (fun _ => ginl (by (first | (clear p_94 p_95 h101 p_115 p_116 p_117; omega) | (clear p_94 p_95 p_115 p_116 p_117; omega) | omega)) (by (first | (clear p_94 p_95 h101 p_115 p_116 p_117; omega) | (clear p_94 p_95 p_115 p_116 p_117; omega) | omega)) z_123) (by (first | (clear p_94 p_95 h101 p_115 p_116 p_117; omega) | (clear p_94 p_95 p_115 p_116 p_117; omega) | omega))
          · skip
            have p_126 := p_115 (by (first | (clear p_94 p_95 h101 p_115 p_116 p_117; omega) | (clear p_94 p_95 p_115 p_116 p_117; omega) | omega))
            have p_127 := p_116 (by (first | (clear p_94 p_95 h101 p_115 p_116 p_117; omega) | (clear p_94 p_95 p_115 p_116 p_117; omega) | omega))
            clear p_115 p_116 p_117
            obtain ⟨P128, P128a, P128b, P128c⟩ := p_127
            have z_129 := P128a.1
            have z_130 := g10.trans P128c
            refine to_is (pc := 60) rw_60_60 (ls2 := [.ref q, .ref 1, .ref p, .int o, .int x4, .int r109, u6]) rfl rfl (to_c (pc := 62) rw_60_62 (x := (0 : Int32)) rfl rfl (to_is (pc := 63) rw_60_63 (ls2 := [.ref q, .ref 1, .ref p, .int o, .int x4, .int r109, .int (0 : Int32)]) rfl rfl ?_))
            have k_131 : (0 : Int32).toInt = 0 := rfl
            have j_132 := (PLs_f (fun a i z => F_n F110 (show ¬ (a = 1 ∧ 5 ≤ i ∨ 3 ≤ a ∧ a ≤ 5 ∨ q ≤ a ∧ a ≤ q + 4) by (first | (clear p_94 p_95 h101 p_115 p_116 p_117; omega) | (clear p_94 p_95 p_115 p_116 p_117; omega) | omega)) rfl) j_107)
            exact (U_60_0 (q := q) (p := p) (o := o) (t := t) (nn := nn) (a := a) (sg := sg) (b := b) (W9 := W9) (P9 := P9) hX hd hq hp q1 q2 q3 q4 q5 q6 q7 q8 hr h ((41 - (0 : Int32).toInt).toNat + 1)) M118 (.ref 1) (.ref p) (.int o) x4 r109 (0 : Int32) hG111 F119 (by (first | (clear p_94 p_95 h101 p_115 p_116 p_117; omega) | (clear p_94 p_95 p_115 p_116 p_117; omega) | omega)) (by (first | (clear p_94 p_95 h101 p_115 p_116 p_117; omega) | (clear p_94 p_95 p_115 p_116 p_117; omega) | omega)) (by (first | (clear p_94 p_95 h101 p_115 p_116 p_117; omega) | (clear p_94 p_95 p_115 p_116 p_117; omega) | omega)) (by (first | (clear p_94 p_95 h101 p_115 p_116 p_117; omega) | (clear p_94 p_95 p_115 p_116 p_117; omega) | omega)) (by (first | (clear p_94 p_95 h101 p_115 p_116 p_117; omega) | (clear p_94 p_95 p_115 p_116 p_117; omega) | omega)) (by (first | (clear p_94 p_95 h101 p_115 p_116 p_117; omega) | (clear p_94 p_95 p_115 p_116 p_117; omega) | omega)) p_114 j_132 (by (first | (clear p_94 p_95 h101 p_115 p_116 p_117; omega) | (clear p_94 p_95 p_115 p_116 p_117; omega) | omega)) (fun _ => ⟨P128, P128a, (by (first | (clear p_94 p_95 h101 p_115 p_116 p_117; omega) | (clear p_94 p_95 p_115 p_116 p_117; omega) | omega)), (by (first | (clear p_94 p_95 h101 p_115 p_116 p_117; omega) | (clear p_94 p_95 p_115 p_116 p_117; omega) | omega)), z_130.trans (g_v rfl rfl (by (first | (clear p_94 p_95 h101 p_115 p_116 p_117; omega) | (clear p_94 p_95 p_115 p_116 p_117; omega) | omega)) (by rw [show x4.toInt - (0 : Int32).toInt = x4.toInt by (first | (clear p_94 p_95 h101 p_115 p_116 p_117; omega) | (clear p_94 p_95 p_115 p_116 p_117; omega) | omega)]) (by (first | (clear p_94 p_95 h101 p_115 p_116 p_117; omega) | (clear p_94 p_95 p_115 p_116 p_117; omega) | omega)))⟩) (fun z => by exfalso; omega) (by (first | (clear p_94 p_95 h101 p_115 p_116 p_117; omega) | (clear p_94 p_95 p_115 p_116 p_117; omega) | omega))
        · refine to_an (pc := 44) rw_60_44 rfl (to_an (pc := 45) rw_60_45 rfl (to_an (pc := 46) rw_60_46 rfl (to_in (pc := 47) rw_60_47 rfl (s_v (pc := 48) rw_60_48 (by (first | (clear p_94 p_95; omega) | omega)) (ls0 := [.ref q, .ref 1, .ref p, .int o]) rfl (Nat.le_of_ble_eq_true rfl) (Nat.le_of_ble_eq_true rfl) rfl (to_rc rfl rfl rfl (g_o hG91 (by rcases hq with rfl | rfl <;> rfl))) rfl ?_))))
          have c_133 : M96.2.1 q 4 = (N.2.1 q 4) := (F_n F90 (show ¬ (q < 0) by (first | (clear p_94 p_95; omega) | omega)) rfl)
          have t_134 : (M96.2.1 q 4).toInt = (N.2.1 q 4).toInt := congrArg Int32.toInt c_133
          have j_135 := (CS_f (tg_28 F90) g5)
          have c_136 : M96.2.1 1 9 = (N.2.1 1 9) := (F_n F90 (show ¬ (1 < 0) by decide) rfl)
          have t_137 : (M96.2.1 1 9).toInt = (N.2.1 1 9).toInt := congrArg Int32.toInt c_136
          have j_138 := (PLs_f (fun a i z => F_n F90 (show ¬ (a < 0) by (first | (clear p_94 p_95; omega) | omega)) rfl) g6)
          have z_139 := LQc_f (fun a i z => (F_n F90 (show ¬ (a < 0) by (first | (clear p_94 p_95; omega) | omega)) rfl)) g8
          refine E_61 hX (by (first | (clear p_94 p_95; omega) | omega)) hG91 hq hp (by (first | (clear p_94 p_95; omega) | omega)) (by (first | (clear p_94 p_95; omega) | omega)) (by (first | (clear p_94 p_95; omega) | omega)) j_135 (by (first | (clear p_94 p_95; omega) | omega)) j_138 z_139 (by (first | (clear p_94 p_95; omega) | omega)) (by (first | (clear p_94 p_95; omega) | omega)) hr (q := q) (p := p) (o := o) (t := t) (nn := nn) (a := (N.2.1 1 9).toInt) (sg := sg) (b := b) (W9 := (x_2s (x4.toInt).toNat W9)) (P9 := P9) (fun r140 M149 hG142 F141 p_143 p_144 p_145 p_146 p_147 p_148 => ?_)
          have F150 := FR.c F97 F141 (fun a i z => show a = 1 ∧ 5 ≤ i ∨ 3 ≤ a ∧ a ≤ 5 ∨ q ≤ a ∧ a ≤ q + 4 by have z : a = 1 ∧ 5 ≤ i ∨ 3 ≤ a ∧ a ≤ 5 ∨ q ≤ a ∧ a ≤ q + 4 := z; omega)
          have b_151 := g_b hG142 (a := q) (i := 4) (lo := 0) (hi := 40) (by rcases hq with rfl | rfl <;> rfl) (by rcases hq with rfl | rfl <;> rfl)
          rcases (show r140.toInt = 0 ∨ r140.toInt = 1 by (first | (clear p_94 p_95 p_146 p_147 p_148; omega) | omega)) with h152 | h152
          · skip
            have p_153 := p_148 (by (first | (clear p_94 p_95 p_146 p_147 p_148; omega) | omega))
            clear p_146 p_147 p_148
            have z_154 := g10.trans p_153
            refine to_go (pc := 51) rw_60_51 (to_is (pc := 60) rw_60_60 (ls2 := [.ref q, .ref 1, .ref p, .int o, .int x4, .int r140, u6]) rfl rfl (to_c (pc := 62) rw_60_62 (x := (0 : Int32)) rfl rfl (to_is (pc := 63) rw_60_63 (ls2 := [.ref q, .ref 1, .ref p, .int o, .int x4, .int r140, .int (0 : Int32)]) rfl rfl ?_)))
            have k_155 : (0 : Int32).toInt = 0 := rfl
            have j_156 := (PLs_f (fun a i z => F_n F141 (show ¬ (a = 1 ∧ 5 ≤ i ∨ 3 ≤ a ∧ a ≤ 5 ∨ q ≤ a ∧ a ≤ q + 4) by (first | (clear p_94 p_95 p_146 p_147 p_148; omega) | omega)) rfl) j_138)
            exact (U_60_0 (q := q) (p := p) (o := o) (t := t) (nn := nn) (a := a) (sg := sg) (b := b) (W9 := W9) (P9 := P9) hX hd hq hp q1 q2 q3 q4 q5 q6 q7 q8 hr h ((41 - (0 : Int32).toInt).toNat + 1)) M149 (.ref 1) (.ref p) (.int o) x4 r140 (0 : Int32) hG142 F150 (by (first | (clear p_94 p_95 p_146 p_147 p_148; omega) | omega)) (by (first | (clear p_94 p_95 p_146 p_147 p_148; omega) | omega)) (by (first | (clear p_94 p_95 p_146 p_147 p_148; omega) | omega)) (by (first | (clear p_94 p_95 p_146 p_147 p_148; omega) | omega)) (by (first | (clear p_94 p_95 p_146 p_147 p_148; omega) | omega)) (by (first | (clear p_94 p_95 p_146 p_147 p_148; omega) | omega)) p_145 j_156 (by (first | (clear p_94 p_95 p_146 p_147 p_148; omega) | omega)) (fun z => by exfalso; omega) (fun _ => ginl (by (first | (clear p_94 p_95 p_146 p_147 p_148; omega) | omega)) (by (first | (clear p_94 p_95 p_146 p_147 p_148; omega) | omega)) z_154) (by (first | (clear p_94 p_95 p_146 p_147 p_148; omega) | omega))
          · skip
            have p_157 := p_146 (by (first | (clear p_94 p_95 p_146 p_147 p_148; omega) | omega))
            have p_158 := p_147 (by (first | (clear p_94 p_95 p_146 p_147 p_148; omega) | omega))
            clear p_146 p_147 p_148
            obtain ⟨P159, P159a, P159b, P159c⟩ := p_158
            have z_160 := P159a.1
            have z_161 := g10.trans P159c
            refine to_go (pc := 51) rw_60_51 (to_is (pc := 60) rw_60_60 (ls2 := [.ref q, .ref 1, .ref p, .int o, .int x4, .int r140, u6]) rfl rfl (to_c (pc := 62) rw_60_62 (x := (0 : Int32)) rfl rfl (to_is (pc := 63) rw_60_63 (ls2 := [.ref q, .ref 1, .ref p, .int o, .int x4, .int r140, .int (0 : Int32)]) rfl rfl ?_)))
            have k_162 : (0 : Int32).toInt = 0 := rfl
            have j_163 := (PLs_f (fun a i z => F_n F141 (show ¬ (a = 1 ∧ 5 ≤ i ∨ 3 ≤ a ∧ a ≤ 5 ∨ q ≤ a ∧ a ≤ q + 4) by (first | (clear p_94 p_95 p_146 p_147 p_148; omega) | omega)) rfl) j_138)
            exact (U_60_0 (q := q) (p := p) (o := o) (t := t) (nn := nn) (a := a) (sg := sg) (b := b) (W9 := W9) (P9 := P9) hX hd hq hp q1 q2 q3 q4 q5 q6 q7 q8 hr h ((41 - (0 : Int32).toInt).toNat + 1)) M149 (.ref 1) (.ref p) (.int o) x4 r140 (0 : Int32) hG142 F150 (by (first | (clear p_94 p_95 p_146 p_147 p_148; omega) | omega)) (by (first | (clear p_94 p_95 p_146 p_147 p_148; omega) | omega)) (by (first | (clear p_94 p_95 p_146 p_147 p_148; omega) | omega)) (by (first | (clear p_94 p_95 p_146 p_147 p_148; omega) | omega)) (by (first | (clear p_94 p_95 p_146 p_147 p_148; omega) | omega)) (by (first | (clear p_94 p_95 p_146 p_147 p_148; omega) | omega)) p_145 j_163 (by (first | (clear p_94 p_95 p_146 p_147 p_148; omega) | omega)) (fun _ => ⟨P159, P159a, (by (first | (clear p_94 p_95 p_146 p_147 p_148; omega) | omega)), (by (first | (clear p_94 p_95 p_146 p_147 p_148; omega) | omega)), z_161.trans (g_v rfl rfl (by (first | (clear p_94 p_95 p_146 p_147 p_148; omega) | omega)) (by rw [show x4.toInt - (0 : Int32).toInt = x4.toInt by (first | (clear p_94 p_95 p_146 p_147 p_148; omega) | omega)]) (by (first | (clear p_94 p_95 p_146 p_147 p_148; omega) | omega)))⟩) (fun z => by exfalso; omega) (by (first | (clear p_94 p_95 p_146 p_147 p_148; omega) | omega))
      · skip
        have p_164 := p_94 (by (first | (clear p_94 p_95; omega) | omega))
        clear p_94 p_95
        refine b_ieq_f (pc := 16) rw_60_16 (A := r89.toInt) rfl (by (first | (clear p_94 p_95; omega) | omega)) (to_an (pc := 19) rw_60_19 rfl (to_an (pc := 20) rw_60_20 rfl (s_v (pc := 21) rw_60_21 (by (first | (clear p_94 p_95; omega) | omega)) (ls0 := [.ref q, .ref 1]) rfl (Nat.le_of_ble_eq_true rfl) (Nat.le_of_ble_eq_true rfl) rfl (to_rc rfl rfl rfl (g_o hG91 (by rcases hq with rfl | rfl <;> rfl))) rfl ?_)))
        have c_165 : M96.2.1 q 4 = (N.2.1 q 4) := (F_n F90 (show ¬ (q < 0) by (first | (clear p_94 p_95; omega) | omega)) rfl)
        have t_166 : (M96.2.1 q 4).toInt = (N.2.1 q 4).toInt := congrArg Int32.toInt c_165
        have j_167 := (CS_f (tg_28 F90) g5)
        have c_168 : M96.2.1 1 9 = (N.2.1 1 9) := (F_n F90 (show ¬ (1 < 0) by decide) rfl)
        have t_169 : (M96.2.1 1 9).toInt = (N.2.1 1 9).toInt := congrArg Int32.toInt c_168
        refine E_63 hX (by (first | (clear p_94 p_95; omega) | omega)) hG91 hq j_167 (by (first | (clear p_94 p_95; omega) | omega)) (q := q) (t := t) (nn := nn) (a := (N.2.1 1 9).toInt) (fun r170 M178 hG172 F171 p_173 p_174 p_175 p_176 p_177 => ?_)
        have F179 := FR.c F97 F171 (fun a i z => show a = 1 ∧ 5 ≤ i ∨ 3 ≤ a ∧ a ≤ 5 ∨ q ≤ a ∧ a ≤ q + 4 by have z : a = 1 ∧ 6 ≤ i ∧ i ≤ 11 ∨ a = q ∧ i = 4 := z; omega)
        have b_180 := g_b hG172 (a := q) (i := 4) (lo := 0) (hi := 40) (by rcases hq with rfl | rfl <;> rfl) (by rcases hq with rfl | rfl <;> rfl)
        rcases (show r170.toInt = 0 ∨ r170.toInt = 1 by (first | (clear p_94 p_95 p_176 p_177; omega) | omega)) with h181 | h181
        · skip
          have p_182 := p_177 (by (first | (clear p_94 p_95 p_176 p_177; omega) | omega))
          clear p_176 p_177
          have z_183 := g10.trans (g_nox (by (first | (clear p_94 p_95 p_176 p_177; omega) | omega)) (by (first | (clear p_94 p_95 p_176 p_177; omega) | omega)) (by (first | (clear p_94 p_95 p_176 p_177; omega) | omega)) (by (first | (clear p_94 p_95 p_176 p_177; omega) | omega)))
          refine b_ine_f (pc := 24) rw_60_24 (A := r170.toInt) rfl (by (first | (clear p_94 p_95 p_176 p_177; omega) | omega)) (to_c (pc := 27) rw_60_27 (x := (0 : Int32)) rfl rfl (s_r1 (pc := 28) rw_60_28 (A := 0) rfl (by decide) ?_))
          have k_184 : (0 : Int32).toInt = 0 := rfl
          exact h (0 : Int32) M178 hG172 F179 (by decide) (by decide) p_175 (by (first | (clear p_94 p_95 p_176 p_177; omega) | omega)) (fun z => by exfalso; omega) (fun _ => ginl (by (first | (clear p_94 p_95 p_176 p_177; omega) | omega)) (by (first | (clear p_94 p_95 p_176 p_177; omega) | omega)) z_183)
        · skip
          have p_185 := p_176 (by (first | (clear p_94 p_95 p_176 p_177; omega) | omega))
          clear p_176 p_177
          have z_186 := g10.trans (g_noq (by (first | (clear p_94 p_95 p_176 p_177; omega) | omega)) (by (first | (clear p_94 p_95 p_176 p_177; omega) | omega)) (by (first | (clear p_94 p_95 p_176 p_177; omega) | omega)) (by (first | (clear p_94 p_95 p_176 p_177; omega) | omega)))
          refine b_ine_t (pc := 24) rw_60_24 (A := r170.toInt) rfl (by (first | (clear p_94 p_95 p_176 p_177; omega) | omega)) (s_inc (pc := 29) rw_60_29 (ls2 := fun v => [.ref q, .ref 1, .ref p, .int o, .int v, u5, u6]) rfl rfl (fun _ => rfl) (A := x4.toInt) (B := 1) rfl rfl (by (first | (clear p_94 p_95 p_176 p_177; omega) | omega)) (fun v187 e188 => to_go (pc := 32) rw_60_32 ?_))
          have j_189 := (PLs_f (fun a i z => F_n F171 (show ¬ (a = 1 ∧ 6 ≤ i ∧ i ≤ 11 ∨ a = q ∧ i = 4) by (first | (clear p_94 p_95 p_176 p_177; omega) | omega)) rfl) (PLs_f (fun a i z => F_n F90 (show ¬ (a < 0) by (first | (clear p_94 p_95 p_176 p_177; omega) | omega)) rfl) g6))
          have z_190 := LQc_f (fun a i z => (F_n F171 (show ¬ (a = 1 ∧ 6 ≤ i ∧ i ≤ 11 ∨ a = q ∧ i = 4) by (first | (clear p_94 p_95 p_176 p_177; omega) | omega)) (F_n F90 (show ¬ (a < 0) by (first | (clear p_94 p_95 p_176 p_177; omega) | omega)) rfl))) g8
          exact ih M178 v187 (u5) (u6) hG172 F179 (by (first | (clear p_94 p_95 p_176 p_177; omega) | omega)) (by (first | (clear p_94 p_95 p_176 p_177; omega) | omega)) (by (first | (clear p_94 p_95 p_176 p_177; omega) | omega)) (by (first | (clear p_94 p_95 p_176 p_177; omega) | omega)) p_175 j_189 (by (first | (clear p_94 p_95 p_176 p_177; omega) | omega)) z_190 (by (first | (clear p_94 p_95 p_176 p_177; omega) | omega)) (z_186.trans (g_v rfl rfl (show ((N.2.1 q 4).toInt + 1) = (M178.2.1 q 4).toInt by (first | (clear p_94 p_95 p_176 p_177; omega) | omega)) (x_2s_s (by (first | (clear p_94 p_95 p_176 p_177; omega) | omega)) (by (first | (clear p_94 p_95 p_176 p_177; omega) | omega))) (show (x_ns t nn (N.2.1 1 9).toInt) = (M178.2.1 1 9).toInt by (first | (clear p_94 p_95 p_176 p_177; omega) | omega)))) (by (first | (clear p_94 p_95 p_176 p_177; omega) | omega))
set_option maxRecDepth 4000 in
set_option maxHeartbeats 0 in
theorem E_60 {X : mm_X} {d : Nat} {M : mm_M} {Q : Option Value → mm_M → Prop} {q : Nat} {p : Nat} {o : Int32} {t : Nat → Int} {nn : Int} {a : Int} {sg : x_S} {b : Int} {W9 : List Int} {P9 : x_GP} (hX : g_X X) (hd : 3 + 4 * (8 - o.toInt) ≤ (d : Int)) (hG : g_G M) (hq : q = 67 ∨ q = 72) (hp : p = 49 ∨ p = 58) (q1 : 0 ≤ o.toInt) (q2 : o.toInt ≤ 8) (q3 : o.toInt = b) (q4 : CS M t nn) (q5 : (M.2.1 1 9).toInt = a) (q6 : PLs M p sg) (q7 : LQc M q P9) (q8 : (M.2.1 q 4).toInt = P9.2 + x_wc W9) (hr : RE_58 (8 - o.toInt)) (h : ∀ (r : Int32) (M1 : mm_M), g_G M1 → FR (md_qq q) M M1 → (0 ≤ r.toInt) → (r.toInt ≤ 1) → CS M1 t nn → (r.toInt = 1 → (M.2.1 q 4).toInt < (M1.2.1 q 4).toInt) → ((r.toInt = 1 → ∃ P2 : x_GP, LQc M1 q P2 ∧ (M1.2.1 q 4).toInt = P2.2 + x_wc W9 ∧ x_gg t nn sg 0 b (M.2.1 q 4).toInt W9 P9 a = x_gg t nn sg 1 b (M1.2.1 q 4).toInt W9 P2 (M1.2.1 1 9).toInt)) → ((r.toInt = 0 → x_gg t nn sg 0 b (M.2.1 q 4).toInt W9 P9 a = Sum.inl ((M1.2.1 1 10).toInt, (M1.2.1 1 11).toInt))) → Q (some (.int r)) M1) : mm_T X d 60 0 [.ref q, .ref 1, .ref p, .int o, .null, .null, .null] [] M Q := by
  have F0 : FR (md_qq q) M M := FR.rf
  have b_191 := g_b hG (a := q) (i := 4) (lo := 0) (hi := 40) (by rcases hq with rfl | rfl <;> rfl) (by rcases hq with rfl | rfl <;> rfl)
  have z_192 := x_wc_b W9
  refine to_c (pc := 0) rw_60_0 (x := (0 : Int32)) rfl rfl (to_is (pc := 1) rw_60_1 (ls2 := [.ref q, .ref 1, .ref p, .int o, .int (0 : Int32), .null, .null]) rfl rfl ?_)
  have k_193 : (0 : Int32).toInt = 0 := rfl
  exact (U_60_1 (q := q) (p := p) (o := o) (t := t) (nn := nn) (a := a) (sg := sg) (b := b) (W9 := W9) (P9 := P9) hX hd hq hp q1 q2 q3 q4 q5 q6 q7 q8 hr h ((41 - (0 : Int32).toInt).toNat + 1)) M (0 : Int32) (.null) (.null) hG F0 (by omega) (by omega) (by omega) (by omega) q4 q6 (by omega) q7 (by omega) (g_v rfl rfl rfl (x_2s_0 (by omega)).symm (by omega)) (by omega)
set_option maxRecDepth 4000 in
set_option maxHeartbeats 0 in
theorem U_59_0 {X : mm_X} {d : Nat} {M : mm_M} {Q : Option Value → mm_M → Prop} {q : Nat} {p : Nat} {o : Int32} {t : Nat → Int} {nn : Int} {a : Int} {sg : x_S} {b : Int} {W9 : List Int} {P9 : x_GP} (hX : g_X X) (hd : 4 + 4 * (8 - o.toInt) ≤ (d : Int)) (hq : q = 67 ∨ q = 72) (hp : p = 49 ∨ p = 58) (q1 : 0 ≤ o.toInt) (q2 : o.toInt ≤ 8) (q3 : o.toInt = b) (q4 : CS M t nn) (q5 : (M.2.1 1 9).toInt = a) (q6 : PLs M p sg) (q7 : LQc M q P9) (q8 : (M.2.1 q 4).toInt = P9.2 + x_wc W9) (q9 : ∀ P : x_GP, x_bd 2 W9 P = (W9, P)) (hr : RE_58 (8 - o.toInt)) (h : ∀ (r : Int32) (M1 : mm_M), g_G M1 → FR (md_qq q) M M1 → (0 ≤ r.toInt) → (r.toInt ≤ 1) → CS M1 t nn → (r.toInt = 1 → (M.2.1 q 4).toInt < (M1.2.1 q 4).toInt) → ((r.toInt = 1 → ∃ P2 : x_GP, LQc M1 q P2 ∧ (M1.2.1 q 4).toInt = P2.2 + x_wc W9 ∧ x_gg t nn sg 0 b (M.2.1 q 4).toInt W9 P9 a = x_gg t nn sg 1 b (M1.2.1 q 4).toInt W9 P2 (M1.2.1 1 9).toInt)) → ((r.toInt = 0 → x_gg t nn sg 0 b (M.2.1 q 4).toInt W9 P9 a = Sum.inl ((M1.2.1 1 10).toInt, (M1.2.1 1 11).toInt))) → ((r.toInt = 1 → ¬ (x_kind t nn (M1.2.1 1 9).toInt = 1 ∧ x_kx (x_val t nn (M1.2.1 1 9).toInt) = 12))) → Q (some (.int r)) M1) : ∀ nn9 : Nat, (∀ (N : mm_M) (x4 : Int32), g_G N → FR (md_qq q) M N → (0 ≤ x4.toInt) → (x4.toInt ≤ 41) → (x4.toInt ≤ (N.2.1 q 4).toInt) → (o.toInt = o.toInt) → (CS N t nn) → (PLs N p sg) → ((M.2.1 q 4).toInt < (N.2.1 q 4).toInt) → (∃ P2 : x_GP, LQc N q P2 ∧ (N.2.1 q 4).toInt = P2.2 + x_wc W9 ∧ x_gg t nn sg 0 b (M.2.1 q 4).toInt W9 P9 a = x_gg t nn sg 1 b (N.2.1 q 4).toInt W9 P2 (N.2.1 1 9).toInt) → 41 - x4.toInt < (nn9 : Int) → mm_T X d 59 15 [.ref q, .ref 1, .ref p, .int o, .int x4] [] N Q) := by
  intro nn9
  induction nn9 with
  | zero =>
    intro N x4 hG F0 g1 g2 g3 g4 g5 g6 g7 g8 hm
    have b_1 := g_b hG (a := q) (i := 4) (lo := 0) (hi := 40) (by rcases hq with rfl | rfl <;> rfl) (by rcases hq with rfl | rfl <;> rfl)
    exfalso; omega
  | succ nn9 ih =>
    intro N x4 hG F0 g1 g2 g3 g4 g5 g6 g7 g8 hm
    have b_2 := g_b hG (a := q) (i := 4) (lo := 0) (hi := 40) (by rcases hq with rfl | rfl <;> rfl) (by rcases hq with rfl | rfl <;> rfl)
    have z_3 := x_wc_b W9
    obtain ⟨Pn, Pna, Pnb, Pnc⟩ := id g8
    have z_4 := Pna.1
    have c_5 := CS_u g5 (a := (N.2.1 1 9).toInt) (by omega)
    unfold x_C at c_5
    have z_6 := x_kx_q (x_val t nn (N.2.1 1 9).toInt)
    refine to_i (pc := 15) rw_59_15 rfl (to_c (pc := 17) rw_59_17 (x := (40 : Int32)) rfl rfl (b_cgt (pc := 19) rw_59_19 (A := x4.toInt) (B := 40) rfl rfl (fun h7 => ?_) (fun h7 => ?_)))
    · refine to_c (pc := 64) rw_59_64 (x := (1 : Int32)) rfl rfl (s_r1 (pc := 65) rw_59_65 (A := 1) rfl (by decide) ?_)
      have k_8 : (1 : Int32).toInt = 1 := rfl
      exact h (1 : Int32) N hG F0 (by decide) (by decide) g5 (by omega) (fun _ => ⟨Pn, Pna, (by omega), Pnc.trans (g_v rfl rfl (show (N.2.1 q 4).toInt = (N.2.1 q 4).toInt by omega) rfl (show (N.2.1 1 9).toInt = (N.2.1 1 9).toInt by omega))⟩) (fun z => by exfalso; omega) (fun _ => by omega)
    · refine to_an (pc := 22) rw_59_22 rfl (to_c (pc := 23) rw_59_23 (x := (48365568 : Int32)) rfl rfl (s_v (pc := 25) rw_59_25 (by omega) (ls0 := [.ref 1, .int (48365568 : Int32)]) rfl (Nat.le_of_ble_eq_true rfl) (Nat.le_of_ble_eq_true rfl) rfl (to_rc rfl rfl rfl (g_o hG rfl)) rfl ?_))
      have k_9 : (48365568 : Int32).toInt = 48365568 := rfl
      refine E_86 hX (by omega) hG g5 (by omega) (x := (48365568 : Int32)) (t := t) (nn := nn) (a := (N.2.1 1 9).toInt) (fun r10 M17 hG12 F11 p_13 p_14 p_15 p_16 => ?_)
      have F18 := FR.c F0 F11 (fun a i z => show a = 1 ∧ 5 ≤ i ∨ 3 ≤ a ∧ a ≤ 5 ∨ q ≤ a ∧ a ≤ q + 4 by have z : a < 0 := z; omega)
      rcases (show r10.toInt = 0 ∨ r10.toInt = 1 by (first | (clear p_15 p_16; omega) | omega)) with h19 | h19
      · skip
        have p_20 := p_16 (by (first | (clear p_15 p_16; omega) | omega))
        clear p_15 p_16
        refine b_ieq_t (pc := 28) rw_59_28 (A := r10.toInt) rfl (by (first | (clear p_15 p_16; omega) | omega)) (to_c (pc := 64) rw_59_64 (x := (1 : Int32)) rfl rfl (s_r1 (pc := 65) rw_59_65 (A := 1) rfl (by decide) ?_))
        have k_21 : (1 : Int32).toInt = 1 := rfl
        have j_22 := (CS_f (tg_28 F11) g5)
        have c_23 : M17.2.1 q 4 = (N.2.1 q 4) := (F_n F11 (show ¬ (q < 0) by (first | (clear p_15 p_16; omega) | omega)) rfl)
        have t_24 : (M17.2.1 q 4).toInt = (N.2.1 q 4).toInt := congrArg Int32.toInt c_23
        have c_25 : M17.2.1 1 9 = (N.2.1 1 9) := (F_n F11 (show ¬ (1 < 0) by decide) rfl)
        have t_26 : (M17.2.1 1 9).toInt = (N.2.1 1 9).toInt := congrArg Int32.toInt c_25
        have z_27 := LQc_f (fun a i z => (F_n F11 (show ¬ (a < 0) by (first | (clear p_15 p_16; omega) | omega)) rfl)) Pna
        exact h (1 : Int32) M17 hG12 F18 (by decide) (by decide) j_22 (by (first | (clear p_15 p_16; omega) | omega)) (fun _ => ⟨Pn, z_27, (by (first | (clear p_15 p_16; omega) | omega)), Pnc.trans (g_v rfl rfl (show (N.2.1 q 4).toInt = (M17.2.1 q 4).toInt by (first | (clear p_15 p_16; omega) | omega)) rfl (show (N.2.1 1 9).toInt = (M17.2.1 1 9).toInt by (first | (clear p_15 p_16; omega) | omega)))⟩) (fun z => by exfalso; omega) (fun _ => by rw [show (M17.2.1 1 9).toInt = (N.2.1 1 9).toInt by (first | (clear p_15 p_16; omega) | omega)]; (first | (clear p_15 p_16; omega) | omega))
      · skip
        have p_28 := p_15 (by (first | (clear p_15 p_16; omega) | omega))
        clear p_15 p_16
        refine b_ieq_f (pc := 28) rw_59_28 (A := r10.toInt) rfl (by (first | (clear p_15 p_16; omega) | omega)) (to_an (pc := 31) rw_59_31 rfl (to_an (pc := 32) rw_59_32 rfl (s_v (pc := 33) rw_59_33 (by (first | (clear p_15 p_16; omega) | omega)) (ls0 := [.ref q, .ref 1]) rfl (Nat.le_of_ble_eq_true rfl) (Nat.le_of_ble_eq_true rfl) rfl (to_rc rfl rfl rfl (g_o hG12 (by rcases hq with rfl | rfl <;> rfl))) rfl ?_)))
        have c_29 : M17.2.1 q 4 = (N.2.1 q 4) := (F_n F11 (show ¬ (q < 0) by (first | (clear p_15 p_16; omega) | omega)) rfl)
        have t_30 : (M17.2.1 q 4).toInt = (N.2.1 q 4).toInt := congrArg Int32.toInt c_29
        have j_31 := (CS_f (tg_28 F11) g5)
        have c_32 : M17.2.1 1 9 = (N.2.1 1 9) := (F_n F11 (show ¬ (1 < 0) by decide) rfl)
        have t_33 : (M17.2.1 1 9).toInt = (N.2.1 1 9).toInt := congrArg Int32.toInt c_32
        refine E_63 hX (by (first | (clear p_15 p_16; omega) | omega)) hG12 hq j_31 (by (first | (clear p_15 p_16; omega) | omega)) (q := q) (t := t) (nn := nn) (a := (N.2.1 1 9).toInt) (fun r34 M42 hG36 F35 p_37 p_38 p_39 p_40 p_41 => ?_)
        have F43 := FR.c F18 F35 (fun a i z => show a = 1 ∧ 5 ≤ i ∨ 3 ≤ a ∧ a ≤ 5 ∨ q ≤ a ∧ a ≤ q + 4 by have z : a = 1 ∧ 6 ≤ i ∧ i ≤ 11 ∨ a = q ∧ i = 4 := z; omega)
        have b_44 := g_b hG36 (a := q) (i := 4) (lo := 0) (hi := 40) (by rcases hq with rfl | rfl <;> rfl) (by rcases hq with rfl | rfl <;> rfl)
        rcases (show r34.toInt = 0 ∨ r34.toInt = 1 by (first | (clear p_15 p_16 p_40 p_41; omega) | omega)) with h45 | h45
        · skip
          have p_46 := p_41 (by (first | (clear p_15 p_16 p_40 p_41; omega) | omega))
          clear p_40 p_41
          have z_47 := Pnc.trans (g_aox (by (first | (clear p_15 p_16 p_40 p_41; omega) | omega)) (by (first | (clear p_15 p_16 p_40 p_41; omega) | omega)) (by (first | (clear p_15 p_16 p_40 p_41; omega) | omega)) (by (first | (clear p_15 p_16 p_40 p_41; omega) | omega)) (by (first | (clear p_15 p_16 p_40 p_41; omega) | omega)))
          refine b_ieq_t (pc := 36) rw_59_36 (A := r34.toInt) rfl (by (first | (clear p_15 p_16 p_40 p_41; omega) | omega)) (to_c (pc := 49) rw_59_49 (x := (0 : Int32)) rfl rfl (s_r1 (pc := 50) rw_59_50 (A := 0) rfl (by decide) ?_))
          have k_48 : (0 : Int32).toInt = 0 := rfl
          exact h (0 : Int32) M42 hG36 F43 (by decide) (by decide) p_39 (by (first | (clear p_15 p_16 p_40 p_41; omega) | omega)) (fun z => by exfalso; omega) (fun _ => ginl (by (first | (clear p_15 p_16 p_40 p_41; omega) | omega)) (by (first | (clear p_15 p_16 p_40 p_41; omega) | omega)) z_47) (fun z => by exfalso; omega)
        · skip
          have p_49 := p_40 (by (first | (clear p_15 p_16 p_40 p_41; omega) | omega))
          clear p_40 p_41
          have z_50 : x_gg t nn sg 0 b (M.2.1 q 4).toInt W9 P9 a = x_gg t nn sg 0 b ((N.2.1 q 4).toInt + 1) (3 :: W9) Pn (x_ns t nn (N.2.1 1 9).toInt) := Pnc.trans ((g_an (by (first | (clear p_15 p_16 p_40 p_41; omega) | omega)) (by (first | (clear p_15 p_16 p_40 p_41; omega) | omega)) (by (first | (clear p_15 p_16 p_40 p_41; omega) | omega)) (by (first | (clear p_15 p_16 p_40 p_41; omega) | omega)) (by (first | (clear p_15 p_16 p_40 p_41; omega) | omega))).trans (by rw [q9 Pn]))
          have z_51 := x_wc_1 (w := 3) (W := W9) (by decide)
          have z_52 := x_wc_b (3 :: W9)
          refine b_ieq_f (pc := 36) rw_59_36 (A := r34.toInt) rfl (by (first | (clear p_15 p_16 p_40 p_41; omega) | omega)) (to_an (pc := 39) rw_59_39 rfl (to_an (pc := 40) rw_59_40 rfl (to_an (pc := 41) rw_59_41 rfl (to_in (pc := 42) rw_59_42 rfl (s_v (pc := 43) rw_59_43 (by (first | (clear p_15 p_16 p_40 p_41; omega) | omega)) (ls0 := [.ref q, .ref 1, .ref p, .int o, .null, .null, .null]) rfl (Nat.le_of_ble_eq_true rfl) (Nat.le_of_ble_eq_true rfl) rfl (to_rc rfl rfl rfl (g_o hG36 (by rcases hq with rfl | rfl <;> rfl))) rfl ?_)))))
          have j_53 := (PLs_f (fun a i z => F_n F35 (show ¬ (a = 1 ∧ 6 ≤ i ∧ i ≤ 11 ∨ a = q ∧ i = 4) by (first | (clear p_15 p_16 p_40 p_41; omega) | omega)) rfl) (PLs_f (fun a i z => F_n F11 (show ¬ (a < 0) by (first | (clear p_15 p_16 p_40 p_41; omega) | omega)) rfl) g6))
          have z_54 := LQc_f (fun a i z => (F_n F35 (show ¬ (a = 1 ∧ 6 ≤ i ∧ i ≤ 11 ∨ a = q ∧ i = 4) by (first | (clear p_15 p_16 p_40 p_41; omega) | omega)) (F_n F11 (show ¬ (a < 0) by (first | (clear p_15 p_16 p_40 p_41; omega) | omega)) rfl))) Pna
          refine E_60 hX (by (first | (clear p_15 p_16 p_40 p_41; omega) | omega)) hG36 hq hp (by (first | (clear p_15 p_16 p_40 p_41; omega) | omega)) (by (first | (clear p_15 p_16 p_40 p_41; omega) | omega)) (by (first | (clear p_15 p_16 p_40 p_41; omega) | omega)) p_39 (by (first | (clear p_15 p_16 p_40 p_41; omega) | omega)) j_53 z_54 (by (first | (clear p_15 p_16 p_40 p_41; omega) | omega)) hr (q := q) (p := p) (o := o) (t := t) (nn := nn) (a := (M42.2.1 1 9).toInt) (sg := sg) (b := b) (W9 := (3 :: W9)) (P9 := Pn) (fun r55 M64 hG57 F56 p_58 p_59 p_60 p_61 p_62 p_63 => ?_)
          have F65 := FR.c F43 F56 (fun a i z => show a = 1 ∧ 5 ≤ i ∨ 3 ≤ a ∧ a ≤ 5 ∨ q ≤ a ∧ a ≤ q + 4 by have z : a = 1 ∧ 5 ≤ i ∨ 3 ≤ a ∧ a ≤ 5 ∨ q ≤ a ∧ a ≤ q + 4 := z; omega)
          have b_66 := g_b hG57 (a := q) (i := 4) (lo := 0) (hi := 40) (by rcases hq with rfl | rfl <;> rfl) (by rcases hq with rfl | rfl <;> rfl)
          rcases (show r55.toInt = 0 ∨ r55.toInt = 1 by (first | (clear p_15 p_16 p_40 p_41 p_61 p_62 p_63; omega) | omega)) with h67 | h67
          · skip
            have p_68 := p_63 (by (first | (clear p_15 p_16 p_40 p_41 p_61 p_62 p_63; omega) | omega))
            clear p_61 p_62 p_63
            have z_69 := z_50.trans ((g_v rfl rfl (by (first | (clear p_15 p_16 p_40 p_41 p_61 p_62 p_63; omega) | omega)) rfl (by (first | (clear p_15 p_16 p_40 p_41 p_61 p_62 p_63; omega) | omega))).trans p_68)
            refine b_ine_f (pc := 46) rw_59_46 (A := r55.toInt) rfl (by (first | (clear p_15 p_16 p_40 p_41 p_61 p_62 p_63; omega) | omega)) (to_c (pc := 49) rw_59_49 (x := (0 : Int32)) rfl rfl (s_r1 (pc := 50) rw_59_50 (A := 0) rfl (by decide) ?_))
            have k_70 : (0 : Int32).toInt = 0 := rfl
            exact h (0 : Int32) M64 hG57 F65 (by decide) (by decide) p_60 (by (first | (clear p_15 p_16 p_40 p_41 p_61 p_62 p_63; omega) | omega)) (fun z => by exfalso; omega) (fun _ => ginl (by (first | (clear p_15 p_16 p_40 p_41 p_61 p_62 p_63; omega) | omega)) (by (first | (clear p_15 p_16 p_40 p_41 p_61 p_62 p_63; omega) | omega)) z_69) (fun z => by exfalso; omega)
          · skip
            have p_71 := p_61 (by (first | (clear p_15 p_16 p_40 p_41 p_61 p_62 p_63; omega) | omega))
            have p_72 := p_62 (by (first | (clear p_15 p_16 p_40 p_41 p_61 p_62 p_63; omega) | omega))
            clear p_61 p_62 p_63
            obtain ⟨P73, P73a, P73b, P73c⟩ := p_72
            have z_74 := P73a.1
            have z_75 := z_50.trans ((g_v rfl rfl (by (first | (clear p_15 p_16 p_40 p_41 p_61 p_62 p_63; omega) | omega)) rfl (by (first | (clear p_15 p_16 p_40 p_41 p_61 p_62 p_63; omega) | omega))).trans P73c)
            refine b_ine_t (pc := 46) rw_59_46 (A := r55.toInt) rfl (by (first | (clear p_15 p_16 p_40 p_41 p_61 p_62 p_63; omega) | omega)) (to_an (pc := 51) rw_59_51 rfl (to_c (pc := 52) rw_59_52 (x := (3 : Int32)) rfl rfl (to_c (pc := 53) rw_59_53 (x := (0 : Int32)) rfl rfl (to_c (pc := 54) rw_59_54 (x := (0 : Int32)) rfl rfl (s_v (pc := 55) rw_59_55 (by (first | (clear p_15 p_16 p_40 p_41 p_61 p_62 p_63; omega) | omega)) (ls0 := [.ref q, .int (3 : Int32), .int (0 : Int32), .int (0 : Int32)]) rfl (Nat.le_of_ble_eq_true rfl) (Nat.le_of_ble_eq_true rfl) rfl (to_rc rfl rfl rfl (g_o hG57 (by rcases hq with rfl | rfl <;> rfl))) rfl ?_)))))
            have k_76 : (3 : Int32).toInt = 3 := rfl
            have k_77 : (0 : Int32).toInt = 0 := rfl
            refine E_64 hX (by (first | (clear p_15 p_16 p_40 p_41 p_61 p_62 p_63; omega) | omega)) hG57 hq (by (first | (clear p_15 p_16 p_40 p_41 p_61 p_62 p_63; omega) | omega)) (by (first | (clear p_15 p_16 p_40 p_41 p_61 p_62 p_63; omega) | omega)) (by (first | (clear p_15 p_16 p_40 p_41 p_61 p_62 p_63; omega) | omega)) (by (first | (clear p_15 p_16 p_40 p_41 p_61 p_62 p_63; omega) | omega)) P73a (by (first | (clear p_15 p_16 p_40 p_41 p_61 p_62 p_63; omega) | omega)) (q := q) (k := (3 : Int32)) (f := (0 : Int32)) (s := (0 : Int32)) (P9 := P73) (fun M81 hG79 F78 p_80 => ?_)
            have F82 := FR.c F65 F78 (fun a i z => show a = 1 ∧ 5 ≤ i ∨ 3 ≤ a ∧ a ≤ 5 ∨ q ≤ a ∧ a ≤ q + 4 by have z : a = q ∧ i = 5 ∨ q + 1 ≤ a ∧ a ≤ q + 3 := z; omega)
            have z_83 := LQc_v (k2 := 3) (f2 := 0) (s2 := 0) rfl rfl rfl p_80
            have z_84 := x_kn1_2 (P := P73) (k := 3) (a := 0) (b := 0)
            have z_85 := z_75.trans (g_b2 (by (first | (clear p_15 p_16 p_40 p_41 p_61 p_62 p_63; omega) | omega)) (by (first | (clear p_15 p_16 p_40 p_41 p_61 p_62 p_63; omega) | omega)) (Or.inr rfl))
            refine s_inc (pc := 58) rw_59_58 (ls2 := fun v => [.ref q, .ref 1, .ref p, .int o, .int v]) rfl rfl (fun _ => rfl) (A := x4.toInt) (B := 1) rfl rfl (by (first | (clear p_15 p_16 p_40 p_41 p_61 p_62 p_63; omega) | omega)) (fun v86 e87 => to_go (pc := 61) rw_59_61 ?_)
            have c_88 : M81.2.1 q 4 = (M64.2.1 q 4) := (F_n F78 (show ¬ (q = q ∧ 4 = 5 ∨ q + 1 ≤ q ∧ q ≤ q + 3) by (first | (clear p_15 p_16 p_40 p_41 p_61 p_62 p_63; omega) | omega)) rfl)
            have t_89 : (M81.2.1 q 4).toInt = (M64.2.1 q 4).toInt := congrArg Int32.toInt c_88
            have j_90 := (CS_f (fun a i z => F_n F78 (show ¬ (a = q ∧ i = 5 ∨ q + 1 ≤ a ∧ a ≤ q + 3) by (first | (clear p_15 p_16 p_40 p_41 p_61 p_62 p_63; omega) | omega)) rfl) p_60)
            have j_91 := (PLs_f (fun a i z => F_n F78 (show ¬ (a = q ∧ i = 5 ∨ q + 1 ≤ a ∧ a ≤ q + 3) by (first | (clear p_15 p_16 p_40 p_41 p_61 p_62 p_63; omega) | omega)) rfl) (PLs_f (fun a i z => F_n F56 (show ¬ (a = 1 ∧ 5 ≤ i ∨ 3 ≤ a ∧ a ≤ 5 ∨ q ≤ a ∧ a ≤ q + 4) by (first | (clear p_15 p_16 p_40 p_41 p_61 p_62 p_63; omega) | omega)) rfl) j_53))
            have c_92 : M81.2.1 1 9 = (M64.2.1 1 9) := (F_n F78 (show ¬ (1 = q ∧ 9 = 5 ∨ q + 1 ≤ 1 ∧ 1 ≤ q + 3) by (first | (clear p_15 p_16 p_40 p_41 p_61 p_62 p_63; omega) | omega)) rfl)
            have t_93 : (M81.2.1 1 9).toInt = (M64.2.1 1 9).toInt := congrArg Int32.toInt c_92
            exact ih M81 v86 hG79 F82 (by (first | (clear p_15 p_16 p_40 p_41 p_61 p_62 p_63; omega) | omega)) (by (first | (clear p_15 p_16 p_40 p_41 p_61 p_62 p_63; omega) | omega)) (by (first | (clear p_15 p_16 p_40 p_41 p_61 p_62 p_63; omega) | omega)) (by (first | (clear p_15 p_16 p_40 p_41 p_61 p_62 p_63; omega) | omega)) j_90 j_91 (by (first | (clear p_15 p_16 p_40 p_41 p_61 p_62 p_63; omega) | omega)) ⟨(x_kn1 P73 3 0 0), z_83, (by (first | (clear p_15 p_16 p_40 p_41 p_61 p_62 p_63; omega) | omega)), z_85.trans (g_v rfl rfl (show (M64.2.1 q 4).toInt = (M81.2.1 q 4).toInt by (first | (clear p_15 p_16 p_40 p_41 p_61 p_62 p_63; omega) | omega)) rfl (show (M64.2.1 1 9).toInt = (M81.2.1 1 9).toInt by (first | (clear p_15 p_16 p_40 p_41 p_61 p_62 p_63; omega) | omega)))⟩ (by (first | (clear p_15 p_16 p_40 p_41 p_61 p_62 p_63; omega) | omega))
set_option maxRecDepth 4000 in
set_option maxHeartbeats 0 in
theorem E_59 {X : mm_X} {d : Nat} {M : mm_M} {Q : Option Value → mm_M → Prop} {q : Nat} {p : Nat} {o : Int32} {t : Nat → Int} {nn : Int} {a : Int} {sg : x_S} {b : Int} {W9 : List Int} {P9 : x_GP} (hX : g_X X) (hd : 4 + 4 * (8 - o.toInt) ≤ (d : Int)) (hG : g_G M) (hq : q = 67 ∨ q = 72) (hp : p = 49 ∨ p = 58) (q1 : 0 ≤ o.toInt) (q2 : o.toInt ≤ 8) (q3 : o.toInt = b) (q4 : CS M t nn) (q5 : (M.2.1 1 9).toInt = a) (q6 : PLs M p sg) (q7 : LQc M q P9) (q8 : (M.2.1 q 4).toInt = P9.2 + x_wc W9) (q9 : ∀ P : x_GP, x_bd 2 W9 P = (W9, P)) (hr : RE_58 (8 - o.toInt)) (h : ∀ (r : Int32) (M1 : mm_M), g_G M1 → FR (md_qq q) M M1 → (0 ≤ r.toInt) → (r.toInt ≤ 1) → CS M1 t nn → (r.toInt = 1 → (M.2.1 q 4).toInt < (M1.2.1 q 4).toInt) → ((r.toInt = 1 → ∃ P2 : x_GP, LQc M1 q P2 ∧ (M1.2.1 q 4).toInt = P2.2 + x_wc W9 ∧ x_gg t nn sg 0 b (M.2.1 q 4).toInt W9 P9 a = x_gg t nn sg 1 b (M1.2.1 q 4).toInt W9 P2 (M1.2.1 1 9).toInt)) → ((r.toInt = 0 → x_gg t nn sg 0 b (M.2.1 q 4).toInt W9 P9 a = Sum.inl ((M1.2.1 1 10).toInt, (M1.2.1 1 11).toInt))) → ((r.toInt = 1 → ¬ (x_kind t nn (M1.2.1 1 9).toInt = 1 ∧ x_kx (x_val t nn (M1.2.1 1 9).toInt) = 12))) → Q (some (.int r)) M1) : mm_T X d 59 0 [.ref q, .ref 1, .ref p, .int o, .null] [] M Q := by
  have F0 : FR (md_qq q) M M := FR.rf
  have b_94 := g_b hG (a := q) (i := 4) (lo := 0) (hi := 40) (by rcases hq with rfl | rfl <;> rfl) (by rcases hq with rfl | rfl <;> rfl)
  have z_95 := x_wc_b W9
  refine to_an (pc := 0) rw_59_0 rfl (to_an (pc := 1) rw_59_1 rfl (to_an (pc := 2) rw_59_2 rfl (to_in (pc := 3) rw_59_3 rfl (s_v (pc := 4) rw_59_4 (by omega) (ls0 := [.ref q, .ref 1, .ref p, .int o, .null, .null, .null]) rfl (Nat.le_of_ble_eq_true rfl) (Nat.le_of_ble_eq_true rfl) rfl (to_rc rfl rfl rfl (g_o hG (by rcases hq with rfl | rfl <;> rfl))) rfl (E_60 hX (by omega) hG hq hp (by omega) (by omega) (by omega) q4 (by omega) q6 q7 (by omega) hr (q := q) (p := p) (o := o) (t := t) (nn := nn) (a := a) (sg := sg) (b := b) (W9 := W9) (P9 := P9) (fun r96 M105 hG98 F97 p_99 p_100 p_101 p_102 p_103 p_104 => ?_))))))
  have F106 := FR.c F0 F97 (fun a i z => show a = 1 ∧ 5 ≤ i ∨ 3 ≤ a ∧ a ≤ 5 ∨ q ≤ a ∧ a ≤ q + 4 by have z : a = 1 ∧ 5 ≤ i ∨ 3 ≤ a ∧ a ≤ 5 ∨ q ≤ a ∧ a ≤ q + 4 := z; omega)
  have b_107 := g_b hG98 (a := q) (i := 4) (lo := 0) (hi := 40) (by rcases hq with rfl | rfl <;> rfl) (by rcases hq with rfl | rfl <;> rfl)
  rcases (show r96.toInt = 0 ∨ r96.toInt = 1 by omega) with h108 | h108
  · skip
    have p_109 := p_104 (by omega)
    clear p_102 p_103 p_104
    refine b_ine_f (pc := 7) rw_59_7 (A := r96.toInt) rfl (by omega) (to_c (pc := 10) rw_59_10 (x := (0 : Int32)) rfl rfl (s_r1 (pc := 11) rw_59_11 (A := 0) rfl (by decide) ?_))
    have k_110 : (0 : Int32).toInt = 0 := rfl
    exact h (0 : Int32) M105 hG98 F106 (by decide) (by decide) p_101 (by omega) (fun z => by exfalso; omega) (fun _ => ginl (by omega) (by omega) p_109) (fun z => by exfalso; omega)
  · skip
    have p_111 := p_102 (by omega)
    have p_112 := p_103 (by omega)
    clear p_102 p_103 p_104
    obtain ⟨P113, P113a, P113b, P113c⟩ := p_112
    have z_114 := P113a.1
    refine b_ine_t (pc := 7) rw_59_7 (A := r96.toInt) rfl (by omega) (to_c (pc := 12) rw_59_12 (x := (0 : Int32)) rfl rfl (to_is (pc := 13) rw_59_13 (ls2 := [.ref q, .ref 1, .ref p, .int o, .int (0 : Int32)]) rfl rfl ?_))
    have k_115 : (0 : Int32).toInt = 0 := rfl
    have j_116 := (PLs_f (fun a i z => F_n F97 (show ¬ (a = 1 ∧ 5 ≤ i ∨ 3 ≤ a ∧ a ≤ 5 ∨ q ≤ a ∧ a ≤ q + 4) by omega) rfl) q6)
    exact (U_59_0 (q := q) (p := p) (o := o) (t := t) (nn := nn) (a := a) (sg := sg) (b := b) (W9 := W9) (P9 := P9) hX hd hq hp q1 q2 q3 q4 q5 q6 q7 q8 q9 hr h ((41 - (0 : Int32).toInt).toNat + 1)) M105 (0 : Int32) hG98 F106 (by omega) (by omega) (by omega) (by omega) p_101 j_116 (by omega) ⟨P113, P113a, (by omega), P113c.trans (g_v rfl rfl (show (M105.2.1 q 4).toInt = (M105.2.1 q 4).toInt by omega) rfl (show (M105.2.1 1 9).toInt = (M105.2.1 1 9).toInt by omega))⟩ (by omega)
set_option maxRecDepth 4000 in
set_option maxHeartbeats 0 in
theorem U_58_0 {X : mm_X} {d : Nat} {M : mm_M} {Q : Option Value → mm_M → Prop} {q : Nat} {p : Nat} {o : Int32} {t : Nat → Int} {nn : Int} {a : Int} {sg : x_S} {b : Int} {W9 : List Int} {P9 : x_GP} (hX : g_X X) (hd : 5 + 4 * (8 - o.toInt) ≤ (d : Int)) (hq : q = 67 ∨ q = 72) (hp : p = 49 ∨ p = 58) (q1 : 0 ≤ o.toInt) (q2 : o.toInt ≤ 8) (q3 : o.toInt = b) (q4 : CS M t nn) (q5 : (M.2.1 1 9).toInt = a) (q6 : PLs M p sg) (q7 : LQc M q P9) (q8 : (M.2.1 q 4).toInt = P9.2 + x_wc W9) (q9 : ∀ P : x_GP, x_bd 1 W9 P = (W9, P) ∧ x_bd 2 W9 P = (W9, P)) (hr : RE_58 (8 - o.toInt)) (h : ∀ (r : Int32) (M1 : mm_M), g_G M1 → FR (md_qq q) M M1 → (0 ≤ r.toInt) → (r.toInt ≤ 1) → CS M1 t nn → (r.toInt = 1 → (M.2.1 q 4).toInt < (M1.2.1 q 4).toInt) → ((r.toInt = 1 → ∃ P2 : x_GP, LQc M1 q P2 ∧ (M1.2.1 q 4).toInt = P2.2 + x_wc W9 ∧ x_gg t nn sg 0 b (M.2.1 q 4).toInt W9 P9 a = x_gg t nn sg 1 b (M1.2.1 q 4).toInt W9 P2 (M1.2.1 1 9).toInt)) → ((r.toInt = 0 → x_gg t nn sg 0 b (M.2.1 q 4).toInt W9 P9 a = Sum.inl ((M1.2.1 1 10).toInt, (M1.2.1 1 11).toInt))) → ((r.toInt = 1 → ¬ (x_kind t nn (M1.2.1 1 9).toInt = 1 ∧ x_kx (x_val t nn (M1.2.1 1 9).toInt) = 12) ∧ ¬ (x_kind t nn (M1.2.1 1 9).toInt = 1 ∧ x_kx (x_val t nn (M1.2.1 1 9).toInt) = 13))) → Q (some (.int r)) M1) : ∀ nn9 : Nat, (∀ (N : mm_M) (x4 : Int32), g_G N → FR (md_qq q) M N → (0 ≤ x4.toInt) → (x4.toInt ≤ 41) → (x4.toInt ≤ (N.2.1 q 4).toInt) → (o.toInt = o.toInt) → (CS N t nn) → (PLs N p sg) → ((M.2.1 q 4).toInt < (N.2.1 q 4).toInt) → (∃ P2 : x_GP, LQc N q P2 ∧ (N.2.1 q 4).toInt = P2.2 + x_wc W9 ∧ x_gg t nn sg 0 b (M.2.1 q 4).toInt W9 P9 a = x_gg t nn sg 1 b (N.2.1 q 4).toInt W9 P2 (N.2.1 1 9).toInt) → (¬ (x_kind t nn (N.2.1 1 9).toInt = 1 ∧ x_kx (x_val t nn (N.2.1 1 9).toInt) = 12)) → 41 - x4.toInt < (nn9 : Int) → mm_T X d 58 15 [.ref q, .ref 1, .ref p, .int o, .int x4] [] N Q) := by
  intro nn9
  induction nn9 with
  | zero =>
    intro N x4 hG F0 g1 g2 g3 g4 g5 g6 g7 g8 g9 hm
    have b_1 := g_b hG (a := q) (i := 4) (lo := 0) (hi := 40) (by rcases hq with rfl | rfl <;> rfl) (by rcases hq with rfl | rfl <;> rfl)
    exfalso; omega
  | succ nn9 ih =>
    intro N x4 hG F0 g1 g2 g3 g4 g5 g6 g7 g8 g9 hm
    have b_2 := g_b hG (a := q) (i := 4) (lo := 0) (hi := 40) (by rcases hq with rfl | rfl <;> rfl) (by rcases hq with rfl | rfl <;> rfl)
    have z_3 := x_wc_b W9
    obtain ⟨Pn, Pna, Pnb, Pnc⟩ := id g8
    have z_4 := Pna.1
    have c_5 := CS_u g5 (a := (N.2.1 1 9).toInt) (by (first | (clear g9; omega) | omega))
    unfold x_C at c_5
    have z_6 := x_kx_q (x_val t nn (N.2.1 1 9).toInt)
    refine to_i (pc := 15) rw_58_15 rfl (to_c (pc := 17) rw_58_17 (x := (40 : Int32)) rfl rfl (b_cgt (pc := 19) rw_58_19 (A := x4.toInt) (B := 40) rfl rfl (fun h7 => ?_) (fun h7 => ?_)))
    · refine to_c (pc := 64) rw_58_64 (x := (1 : Int32)) rfl rfl (s_r1 (pc := 65) rw_58_65 (A := 1) rfl (by decide) ?_)
      have k_8 : (1 : Int32).toInt = 1 := rfl
      exact h (1 : Int32) N hG F0 (by decide) (by decide) g5 (by (first | (clear g9; omega) | omega)) (fun _ => ⟨Pn, Pna, (by (first | (clear g9; omega) | omega)), Pnc.trans (g_v rfl rfl (show (N.2.1 q 4).toInt = (N.2.1 q 4).toInt by (first | (clear g9; omega) | omega)) rfl (show (N.2.1 1 9).toInt = (N.2.1 1 9).toInt by (first | (clear g9; omega) | omega)))⟩) (fun z => by exfalso; omega) (fun _ => by (first | (clear g9; omega) | omega))
    · refine to_an (pc := 22) rw_58_22 rfl (to_c (pc := 23) rw_58_23 (x := (522190848 : Int32)) rfl rfl (s_v (pc := 25) rw_58_25 (by (first | (clear g9; omega) | omega)) (ls0 := [.ref 1, .int (522190848 : Int32)]) rfl (Nat.le_of_ble_eq_true rfl) (Nat.le_of_ble_eq_true rfl) rfl (to_rc rfl rfl rfl (g_o hG rfl)) rfl ?_))
      have k_9 : (522190848 : Int32).toInt = 522190848 := rfl
      refine E_86 hX (by (first | (clear g9; omega) | omega)) hG g5 (by (first | (clear g9; omega) | omega)) (x := (522190848 : Int32)) (t := t) (nn := nn) (a := (N.2.1 1 9).toInt) (fun r10 M17 hG12 F11 p_13 p_14 p_15 p_16 => ?_)
      have F18 := FR.c F0 F11 (fun a i z => show a = 1 ∧ 5 ≤ i ∨ 3 ≤ a ∧ a ≤ 5 ∨ q ≤ a ∧ a ≤ q + 4 by have z : a < 0 := z; omega)
      rcases (show r10.toInt = 0 ∨ r10.toInt = 1 by (first | (clear g9 p_15 p_16; omega) | omega)) with h19 | h19
      · skip
        have p_20 := p_16 (by (first | (clear g9 p_15 p_16; omega) | omega))
        clear p_15 p_16
        refine b_ieq_t (pc := 28) rw_58_28 (A := r10.toInt) rfl (by (first | (clear g9 p_15 p_16; omega) | omega)) (to_c (pc := 64) rw_58_64 (x := (1 : Int32)) rfl rfl (s_r1 (pc := 65) rw_58_65 (A := 1) rfl (by decide) ?_))
        have k_21 : (1 : Int32).toInt = 1 := rfl
        have j_22 := (CS_f (tg_28 F11) g5)
        have c_23 : M17.2.1 q 4 = (N.2.1 q 4) := (F_n F11 (show ¬ (q < 0) by (first | (clear g9 p_15 p_16; omega) | omega)) rfl)
        have t_24 : (M17.2.1 q 4).toInt = (N.2.1 q 4).toInt := congrArg Int32.toInt c_23
        have c_25 : M17.2.1 1 9 = (N.2.1 1 9) := (F_n F11 (show ¬ (1 < 0) by decide) rfl)
        have t_26 : (M17.2.1 1 9).toInt = (N.2.1 1 9).toInt := congrArg Int32.toInt c_25
        have z_27 := LQc_f (fun a i z => (F_n F11 (show ¬ (a < 0) by (first | (clear g9 p_15 p_16; omega) | omega)) rfl)) Pna
        exact h (1 : Int32) M17 hG12 F18 (by decide) (by decide) j_22 (by (first | (clear g9 p_15 p_16; omega) | omega)) (fun _ => ⟨Pn, z_27, (by (first | (clear g9 p_15 p_16; omega) | omega)), Pnc.trans (g_v rfl rfl (show (N.2.1 q 4).toInt = (M17.2.1 q 4).toInt by (first | (clear g9 p_15 p_16; omega) | omega)) rfl (show (N.2.1 1 9).toInt = (M17.2.1 1 9).toInt by (first | (clear g9 p_15 p_16; omega) | omega)))⟩) (fun z => by exfalso; omega) (fun _ => by rw [show (M17.2.1 1 9).toInt = (N.2.1 1 9).toInt by (first | (clear g9 p_15 p_16; omega) | omega)]; (first | (clear g9 p_15 p_16; omega) | omega))
      · skip
        have p_28 := p_15 (by (first | (clear g9 p_15 p_16; omega) | omega))
        clear p_15 p_16
        refine b_ieq_f (pc := 28) rw_58_28 (A := r10.toInt) rfl (by (first | (clear g9 p_15 p_16; omega) | omega)) (to_an (pc := 31) rw_58_31 rfl (to_an (pc := 32) rw_58_32 rfl (s_v (pc := 33) rw_58_33 (by (first | (clear g9 p_15 p_16; omega) | omega)) (ls0 := [.ref q, .ref 1]) rfl (Nat.le_of_ble_eq_true rfl) (Nat.le_of_ble_eq_true rfl) rfl (to_rc rfl rfl rfl (g_o hG12 (by rcases hq with rfl | rfl <;> rfl))) rfl ?_)))
        have c_29 : M17.2.1 q 4 = (N.2.1 q 4) := (F_n F11 (show ¬ (q < 0) by (first | (clear g9 p_15 p_16; omega) | omega)) rfl)
        have t_30 : (M17.2.1 q 4).toInt = (N.2.1 q 4).toInt := congrArg Int32.toInt c_29
        have j_31 := (CS_f (tg_28 F11) g5)
        have c_32 : M17.2.1 1 9 = (N.2.1 1 9) := (F_n F11 (show ¬ (1 < 0) by decide) rfl)
        have t_33 : (M17.2.1 1 9).toInt = (N.2.1 1 9).toInt := congrArg Int32.toInt c_32
        refine E_63 hX (by (first | (clear g9 p_15 p_16; omega) | omega)) hG12 hq j_31 (by (first | (clear g9 p_15 p_16; omega) | omega)) (q := q) (t := t) (nn := nn) (a := (N.2.1 1 9).toInt) (fun r34 M42 hG36 F35 p_37 p_38 p_39 p_40 p_41 => ?_)
        have F43 := FR.c F18 F35 (fun a i z => show a = 1 ∧ 5 ≤ i ∨ 3 ≤ a ∧ a ≤ 5 ∨ q ≤ a ∧ a ≤ q + 4 by have z : a = 1 ∧ 6 ≤ i ∧ i ≤ 11 ∨ a = q ∧ i = 4 := z; omega)
        have b_44 := g_b hG36 (a := q) (i := 4) (lo := 0) (hi := 40) (by rcases hq with rfl | rfl <;> rfl) (by rcases hq with rfl | rfl <;> rfl)
        rcases (show r34.toInt = 0 ∨ r34.toInt = 1 by (first | (clear g9 p_15 p_16 p_40 p_41; omega) | omega)) with h45 | h45
        · skip
          have p_46 := p_41 (by (first | (clear g9 p_15 p_16 p_40 p_41; omega) | omega))
          clear p_40 p_41
          have z_47 := Pnc.trans (g_aox (by (first | (clear g9 p_15 p_16 p_40 p_41; omega) | omega)) (by (first | (clear g9 p_15 p_16 p_40 p_41; omega) | omega)) (by (first | (clear g9 p_15 p_16 p_40 p_41; omega) | omega)) (by (first | (clear g9 p_15 p_16 p_40 p_41; omega) | omega)) (by (first | (clear g9 p_15 p_16 p_40 p_41; omega) | omega)))
          refine b_ieq_t (pc := 36) rw_58_36 (A := r34.toInt) rfl (by (first | (clear g9 p_15 p_16 p_40 p_41; omega) | omega)) (to_c (pc := 49) rw_58_49 (x := (0 : Int32)) rfl rfl (s_r1 (pc := 50) rw_58_50 (A := 0) rfl (by decide) ?_))
          have k_48 : (0 : Int32).toInt = 0 := rfl
          exact h (0 : Int32) M42 hG36 F43 (by decide) (by decide) p_39 (by (first | (clear g9 p_15 p_16 p_40 p_41; omega) | omega)) (fun z => by exfalso; omega) (fun _ => ginl (by (first | (clear g9 p_15 p_16 p_40 p_41; omega) | omega)) (by (first | (clear g9 p_15 p_16 p_40 p_41; omega) | omega)) z_47) (fun z => by exfalso; omega)
        · skip
          have p_49 := p_40 (by (first | (clear g9 p_15 p_16 p_40 p_41; omega) | omega))
          clear p_40 p_41
          have z_50 : x_gg t nn sg 0 b (M.2.1 q 4).toInt W9 P9 a = x_gg t nn sg 0 b ((N.2.1 q 4).toInt + 1) (4 :: W9) Pn (x_ns t nn (N.2.1 1 9).toInt) := Pnc.trans ((g_or (by (first | (clear g9 p_15 p_16 p_40 p_41; omega) | omega)) (by (first | (clear g9 p_15 p_16 p_40 p_41; omega) | omega)) (by (first | (clear g9 p_15 p_16 p_40 p_41; omega) | omega)) (by (first | (clear g9 p_15 p_16 p_40 p_41; omega) | omega)) (by (first | (clear g9 p_15 p_16 p_40 p_41; omega) | omega))).trans (by rw [(q9 Pn).1]))
          have z_51 := x_wc_1 (w := 4) (W := W9) (by decide)
          have z_52 := x_wc_b (4 :: W9)
          refine b_ieq_f (pc := 36) rw_58_36 (A := r34.toInt) rfl (by (first | (clear g9 p_15 p_16 p_40 p_41; omega) | omega)) (to_an (pc := 39) rw_58_39 rfl (to_an (pc := 40) rw_58_40 rfl (to_an (pc := 41) rw_58_41 rfl (to_in (pc := 42) rw_58_42 rfl (s_v (pc := 43) rw_58_43 (by (first | (clear g9 p_15 p_16 p_40 p_41; omega) | omega)) (ls0 := [.ref q, .ref 1, .ref p, .int o, .null]) rfl (Nat.le_of_ble_eq_true rfl) (Nat.le_of_ble_eq_true rfl) rfl (to_rc rfl rfl rfl (g_o hG36 (by rcases hq with rfl | rfl <;> rfl))) rfl ?_)))))
          have j_53 := (PLs_f (fun a i z => F_n F35 (show ¬ (a = 1 ∧ 6 ≤ i ∧ i ≤ 11 ∨ a = q ∧ i = 4) by (first | (clear g9 p_15 p_16 p_40 p_41; omega) | omega)) rfl) (PLs_f (fun a i z => F_n F11 (show ¬ (a < 0) by (first | (clear g9 p_15 p_16 p_40 p_41; omega) | omega)) rfl) g6))
          have z_54 := LQc_f (fun a i z => (F_n F35 (show ¬ (a = 1 ∧ 6 ≤ i ∧ i ≤ 11 ∨ a = q ∧ i = 4) by (first | (clear g9 p_15 p_16 p_40 p_41; omega) | omega)) (F_n F11 (show ¬ (a < 0) by (first | (clear g9 p_15 p_16 p_40 p_41; omega) | omega)) rfl))) Pna
          refine E_59 hX (by (first | (clear g9 p_15 p_16 p_40 p_41; omega) | omega)) hG36 hq hp (by (first | (clear g9 p_15 p_16 p_40 p_41; omega) | omega)) (by (first | (clear g9 p_15 p_16 p_40 p_41; omega) | omega)) (by (first | (clear g9 p_15 p_16 p_40 p_41; omega) | omega)) p_39 (by (first | (clear g9 p_15 p_16 p_40 p_41; omega) | omega)) j_53 z_54 (by (first | (clear g9 p_15 p_16 p_40 p_41; omega) | omega)) (fun P => bd_4) hr (q := q) (p := p) (o := o) (t := t) (nn := nn) (a := (M42.2.1 1 9).toInt) (sg := sg) (b := b) (W9 := (4 :: W9)) (P9 := Pn) (fun r55 M65 hG57 F56 p_58 p_59 p_60 p_61 p_62 p_63 p_64 => ?_)
          have F66 := FR.c F43 F56 (fun a i z => show a = 1 ∧ 5 ≤ i ∨ 3 ≤ a ∧ a ≤ 5 ∨ q ≤ a ∧ a ≤ q + 4 by have z : a = 1 ∧ 5 ≤ i ∨ 3 ≤ a ∧ a ≤ 5 ∨ q ≤ a ∧ a ≤ q + 4 := z; omega)
          have b_67 := g_b hG57 (a := q) (i := 4) (lo := 0) (hi := 40) (by rcases hq with rfl | rfl <;> rfl) (by rcases hq with rfl | rfl <;> rfl)
          rcases (show r55.toInt = 0 ∨ r55.toInt = 1 by (first | (clear g9 p_15 p_16 p_40 p_41 p_61 p_62 p_63 p_64; omega) | omega)) with h68 | h68
          · skip
            have p_69 := p_63 (by (first | (clear g9 p_15 p_16 p_40 p_41 p_61 p_62 p_63 p_64; omega) | omega))
            clear p_61 p_62 p_63 p_64
            have z_70 := z_50.trans ((g_v rfl rfl (by (first | (clear g9 p_15 p_16 p_40 p_41 p_61 p_62 p_63 p_64; omega) | omega)) rfl (by (first | (clear g9 p_15 p_16 p_40 p_41 p_61 p_62 p_63 p_64; omega) | omega))).trans p_69)
            refine b_ine_f (pc := 46) rw_58_46 (A := r55.toInt) rfl (by (first | (clear g9 p_15 p_16 p_40 p_41 p_61 p_62 p_63 p_64; omega) | omega)) (to_c (pc := 49) rw_58_49 (x := (0 : Int32)) rfl rfl (s_r1 (pc := 50) rw_58_50 (A := 0) rfl (by decide) ?_))
            have k_71 : (0 : Int32).toInt = 0 := rfl
            exact h (0 : Int32) M65 hG57 F66 (by decide) (by decide) p_60 (by (first | (clear g9 p_15 p_16 p_40 p_41 p_61 p_62 p_63 p_64; omega) | omega)) (fun z => by exfalso; omega) (fun _ => ginl (by (first | (clear g9 p_15 p_16 p_40 p_41 p_61 p_62 p_63 p_64; omega) | omega)) (by (first | (clear g9 p_15 p_16 p_40 p_41 p_61 p_62 p_63 p_64; omega) | omega)) z_70) (fun z => by exfalso; omega)
          · skip
            have p_72 := p_61 (by (first | (clear g9 p_15 p_16 p_40 p_41 p_61 p_62 p_63 p_64; omega) | omega))
            have p_73 := p_62 (by (first | (clear g9 p_15 p_16 p_40 p_41 p_61 p_62 p_63 p_64; omega) | omega))
            have p_74 := p_64 (by (first | (clear g9 p_15 p_16 p_40 p_41 p_61 p_62 p_63 p_64; omega) | omega))
            clear p_61 p_62 p_63 p_64
            obtain ⟨P75, P75a, P75b, P75c⟩ := p_73
            have z_76 := P75a.1
            have z_77 := z_50.trans ((g_v rfl rfl (by (first | (clear g9 p_15 p_16 p_40 p_41 p_61 p_62 p_63 p_64; omega) | omega)) rfl (by (first | (clear g9 p_15 p_16 p_40 p_41 p_61 p_62 p_63 p_64; omega) | omega))).trans P75c)
            have z_78 := p_74
            refine b_ine_t (pc := 46) rw_58_46 (A := r55.toInt) rfl (by (first | (clear g9 p_15 p_16 p_40 p_41 p_61 p_62 p_63 p_64; omega) | omega)) (to_an (pc := 51) rw_58_51 rfl (to_c (pc := 52) rw_58_52 (x := (4 : Int32)) rfl rfl (to_c (pc := 53) rw_58_53 (x := (0 : Int32)) rfl rfl (to_c (pc := 54) rw_58_54 (x := (0 : Int32)) rfl rfl (s_v (pc := 55) rw_58_55 (by (first | (clear g9 p_15 p_16 p_40 p_41 p_61 p_62 p_63 p_64; omega) | omega)) (ls0 := [.ref q, .int (4 : Int32), .int (0 : Int32), .int (0 : Int32)]) rfl (Nat.le_of_ble_eq_true rfl) (Nat.le_of_ble_eq_true rfl) rfl (to_rc rfl rfl rfl (g_o hG57 (by rcases hq with rfl | rfl <;> rfl))) rfl ?_)))))
            have k_79 : (4 : Int32).toInt = 4 := rfl
            have k_80 : (0 : Int32).toInt = 0 := rfl
            refine E_64 hX (by (first | (clear g9 p_15 p_16 p_40 p_41 p_61 p_62 p_63 p_64; omega) | omega)) hG57 hq (by (first | (clear g9 p_15 p_16 p_40 p_41 p_61 p_62 p_63 p_64; omega) | omega)) (by (first | (clear g9 p_15 p_16 p_40 p_41 p_61 p_62 p_63 p_64; omega) | omega)) (by (first | (clear g9 p_15 p_16 p_40 p_41 p_61 p_62 p_63 p_64; omega) | omega)) (by (first | (clear g9 p_15 p_16 p_40 p_41 p_61 p_62 p_63 p_64; omega) | omega)) P75a (by (first | (clear g9 p_15 p_16 p_40 p_41 p_61 p_62 p_63 p_64; omega) | omega)) (q := q) (k := (4 : Int32)) (f := (0 : Int32)) (s := (0 : Int32)) (P9 := P75) (fun M84 hG82 F81 p_83 => ?_)
            have F85 := FR.c F66 F81 (fun a i z => show a = 1 ∧ 5 ≤ i ∨ 3 ≤ a ∧ a ≤ 5 ∨ q ≤ a ∧ a ≤ q + 4 by have z : a = q ∧ i = 5 ∨ q + 1 ≤ a ∧ a ≤ q + 3 := z; omega)
            have z_86 := LQc_v (k2 := 4) (f2 := 0) (s2 := 0) rfl rfl rfl p_83
            have z_87 := x_kn1_2 (P := P75) (k := 4) (a := 0) (b := 0)
            have z_88 := z_77.trans (g_b4 (by (first | (clear g9 p_15 p_16 p_40 p_41 p_61 p_62 p_63 p_64; omega) | omega)) (by (first | (clear g9 p_15 p_16 p_40 p_41 p_61 p_62 p_63 p_64; omega) | omega)) (by (first | (clear g9 p_15 p_16 p_40 p_41 p_61 p_62 p_63 p_64; omega) | omega)))
            refine s_inc (pc := 58) rw_58_58 (ls2 := fun v => [.ref q, .ref 1, .ref p, .int o, .int v]) rfl rfl (fun _ => rfl) (A := x4.toInt) (B := 1) rfl rfl (by (first | (clear g9 p_15 p_16 p_40 p_41 p_61 p_62 p_63 p_64; omega) | omega)) (fun v89 e90 => to_go (pc := 61) rw_58_61 ?_)
            have c_91 : M84.2.1 q 4 = (M65.2.1 q 4) := (F_n F81 (show ¬ (q = q ∧ 4 = 5 ∨ q + 1 ≤ q ∧ q ≤ q + 3) by (first | (clear g9 p_15 p_16 p_40 p_41 p_61 p_62 p_63 p_64; omega) | omega)) rfl)
            have t_92 : (M84.2.1 q 4).toInt = (M65.2.1 q 4).toInt := congrArg Int32.toInt c_91
            have j_93 := (CS_f (fun a i z => F_n F81 (show ¬ (a = q ∧ i = 5 ∨ q + 1 ≤ a ∧ a ≤ q + 3) by (first | (clear g9 p_15 p_16 p_40 p_41 p_61 p_62 p_63 p_64; omega) | omega)) rfl) p_60)
            have j_94 := (PLs_f (fun a i z => F_n F81 (show ¬ (a = q ∧ i = 5 ∨ q + 1 ≤ a ∧ a ≤ q + 3) by (first | (clear g9 p_15 p_16 p_40 p_41 p_61 p_62 p_63 p_64; omega) | omega)) rfl) (PLs_f (fun a i z => F_n F56 (show ¬ (a = 1 ∧ 5 ≤ i ∨ 3 ≤ a ∧ a ≤ 5 ∨ q ≤ a ∧ a ≤ q + 4) by (first | (clear g9 p_15 p_16 p_40 p_41 p_61 p_62 p_63 p_64; omega) | omega)) rfl) j_53))
            have c_95 : M84.2.1 1 9 = (M65.2.1 1 9) := (F_n F81 (show ¬ (1 = q ∧ 9 = 5 ∨ q + 1 ≤ 1 ∧ 1 ≤ q + 3) by (first | (clear g9 p_15 p_16 p_40 p_41 p_61 p_62 p_63 p_64; omega) | omega)) rfl)
            have t_96 : (M84.2.1 1 9).toInt = (M65.2.1 1 9).toInt := congrArg Int32.toInt c_95
            exact ih M84 v89 hG82 F85 (by (first | (clear g9 p_15 p_16 p_40 p_41 p_61 p_62 p_63 p_64; omega) | omega)) (by (first | (clear g9 p_15 p_16 p_40 p_41 p_61 p_62 p_63 p_64; omega) | omega)) (by (first | (clear g9 p_15 p_16 p_40 p_41 p_61 p_62 p_63 p_64; omega) | omega)) (by (first | (clear g9 p_15 p_16 p_40 p_41 p_61 p_62 p_63 p_64; omega) | omega)) j_93 j_94 (by (first | (clear g9 p_15 p_16 p_40 p_41 p_61 p_62 p_63 p_64; omega) | omega)) ⟨(x_kn1 P75 4 0 0), z_86, (by (first | (clear g9 p_15 p_16 p_40 p_41 p_61 p_62 p_63 p_64; omega) | omega)), z_88.trans (g_v rfl rfl (show (M65.2.1 q 4).toInt = (M84.2.1 q 4).toInt by (first | (clear g9 p_15 p_16 p_40 p_41 p_61 p_62 p_63 p_64; omega) | omega)) rfl (show (M65.2.1 1 9).toInt = (M84.2.1 1 9).toInt by (first | (clear g9 p_15 p_16 p_40 p_41 p_61 p_62 p_63 p_64; omega) | omega)))⟩ (by rw [show (M84.2.1 1 9).toInt = (M65.2.1 1 9).toInt by (first | (clear g9 p_15 p_16 p_40 p_41 p_61 p_62 p_63 p_64; omega) | omega)]; (first | (clear g9 p_15 p_16 p_40 p_41 p_61 p_62 p_63 p_64; omega) | omega)) (by (first | (clear g9 p_15 p_16 p_40 p_41 p_61 p_62 p_63 p_64; omega) | omega))
set_option maxRecDepth 4000 in
set_option maxHeartbeats 0 in
theorem BE_58 {X : mm_X} {d : Nat} {M : mm_M} {Q : Option Value → mm_M → Prop} {q : Nat} {p : Nat} {o : Int32} {t : Nat → Int} {nn : Int} {a : Int} {sg : x_S} {b : Int} {W9 : List Int} {P9 : x_GP} (hX : g_X X) (hd : 5 + 4 * (8 - o.toInt) ≤ (d : Int)) (hG : g_G M) (hq : q = 67 ∨ q = 72) (hp : p = 49 ∨ p = 58) (q1 : 0 ≤ o.toInt) (q2 : o.toInt ≤ 8) (q3 : o.toInt = b) (q4 : CS M t nn) (q5 : (M.2.1 1 9).toInt = a) (q6 : PLs M p sg) (q7 : LQc M q P9) (q8 : (M.2.1 q 4).toInt = P9.2 + x_wc W9) (q9 : ∀ P : x_GP, x_bd 1 W9 P = (W9, P) ∧ x_bd 2 W9 P = (W9, P)) (hr : RE_58 (8 - o.toInt)) (h : ∀ (r : Int32) (M1 : mm_M), g_G M1 → FR (md_qq q) M M1 → (0 ≤ r.toInt) → (r.toInt ≤ 1) → CS M1 t nn → (r.toInt = 1 → (M.2.1 q 4).toInt < (M1.2.1 q 4).toInt) → ((r.toInt = 1 → ∃ P2 : x_GP, LQc M1 q P2 ∧ (M1.2.1 q 4).toInt = P2.2 + x_wc W9 ∧ x_gg t nn sg 0 b (M.2.1 q 4).toInt W9 P9 a = x_gg t nn sg 1 b (M1.2.1 q 4).toInt W9 P2 (M1.2.1 1 9).toInt)) → ((r.toInt = 0 → x_gg t nn sg 0 b (M.2.1 q 4).toInt W9 P9 a = Sum.inl ((M1.2.1 1 10).toInt, (M1.2.1 1 11).toInt))) → ((r.toInt = 1 → ¬ (x_kind t nn (M1.2.1 1 9).toInt = 1 ∧ x_kx (x_val t nn (M1.2.1 1 9).toInt) = 12) ∧ ¬ (x_kind t nn (M1.2.1 1 9).toInt = 1 ∧ x_kx (x_val t nn (M1.2.1 1 9).toInt) = 13))) → Q (some (.int r)) M1) : mm_T X d 58 0 [.ref q, .ref 1, .ref p, .int o, .null] [] M Q := by
  have F0 : FR (md_qq q) M M := FR.rf
  have b_97 := g_b hG (a := q) (i := 4) (lo := 0) (hi := 40) (by rcases hq with rfl | rfl <;> rfl) (by rcases hq with rfl | rfl <;> rfl)
  have z_98 := x_wc_b W9
  refine to_an (pc := 0) rw_58_0 rfl (to_an (pc := 1) rw_58_1 rfl (to_an (pc := 2) rw_58_2 rfl (to_in (pc := 3) rw_58_3 rfl (s_v (pc := 4) rw_58_4 (by omega) (ls0 := [.ref q, .ref 1, .ref p, .int o, .null]) rfl (Nat.le_of_ble_eq_true rfl) (Nat.le_of_ble_eq_true rfl) rfl (to_rc rfl rfl rfl (g_o hG (by rcases hq with rfl | rfl <;> rfl))) rfl (E_59 hX (by omega) hG hq hp (by omega) (by omega) (by omega) q4 (by omega) q6 q7 (by omega) (fun P => (q9 P).2) hr (q := q) (p := p) (o := o) (t := t) (nn := nn) (a := a) (sg := sg) (b := b) (W9 := W9) (P9 := P9) (fun r99 M109 hG101 F100 p_102 p_103 p_104 p_105 p_106 p_107 p_108 => ?_))))))
  have F110 := FR.c F0 F100 (fun a i z => show a = 1 ∧ 5 ≤ i ∨ 3 ≤ a ∧ a ≤ 5 ∨ q ≤ a ∧ a ≤ q + 4 by have z : a = 1 ∧ 5 ≤ i ∨ 3 ≤ a ∧ a ≤ 5 ∨ q ≤ a ∧ a ≤ q + 4 := z; omega)
  have b_111 := g_b hG101 (a := q) (i := 4) (lo := 0) (hi := 40) (by rcases hq with rfl | rfl <;> rfl) (by rcases hq with rfl | rfl <;> rfl)
  rcases (show r99.toInt = 0 ∨ r99.toInt = 1 by omega) with h112 | h112
  · skip
    have p_113 := p_107 (by omega)
    clear p_105 p_106 p_107 p_108
    refine b_ine_f (pc := 7) rw_58_7 (A := r99.toInt) rfl (by omega) (to_c (pc := 10) rw_58_10 (x := (0 : Int32)) rfl rfl (s_r1 (pc := 11) rw_58_11 (A := 0) rfl (by decide) ?_))
    have k_114 : (0 : Int32).toInt = 0 := rfl
    exact h (0 : Int32) M109 hG101 F110 (by decide) (by decide) p_104 (by omega) (fun z => by exfalso; omega) (fun _ => ginl (by omega) (by omega) p_113) (fun z => by exfalso; omega)
  · skip
    have p_115 := p_105 (by omega)
    have p_116 := p_106 (by omega)
    have p_117 := p_108 (by omega)
    clear p_105 p_106 p_107 p_108
    obtain ⟨P118, P118a, P118b, P118c⟩ := p_116
    have z_119 := P118a.1
    have z_120 := p_117
    refine b_ine_t (pc := 7) rw_58_7 (A := r99.toInt) rfl (by omega) (to_c (pc := 12) rw_58_12 (x := (0 : Int32)) rfl rfl (to_is (pc := 13) rw_58_13 (ls2 := [.ref q, .ref 1, .ref p, .int o, .int (0 : Int32)]) rfl rfl ?_))
    have k_121 : (0 : Int32).toInt = 0 := rfl
    have j_122 := (PLs_f (fun a i z => F_n F100 (show ¬ (a = 1 ∧ 5 ≤ i ∨ 3 ≤ a ∧ a ≤ 5 ∨ q ≤ a ∧ a ≤ q + 4) by omega) rfl) q6)
    exact (U_58_0 (q := q) (p := p) (o := o) (t := t) (nn := nn) (a := a) (sg := sg) (b := b) (W9 := W9) (P9 := P9) hX hd hq hp q1 q2 q3 q4 q5 q6 q7 q8 q9 hr h ((41 - (0 : Int32).toInt).toNat + 1)) M109 (0 : Int32) hG101 F110 (by omega) (by omega) (by omega) (by omega) p_104 j_122 (by omega) ⟨P118, P118a, (by omega), P118c.trans (g_v rfl rfl (show (M109.2.1 q 4).toInt = (M109.2.1 q 4).toInt by omega) rfl (show (M109.2.1 1 9).toInt = (M109.2.1 1 9).toInt by omega))⟩ (by omega) (by omega)
theorem RE_58_all : ∀ nn : Nat, RE_58 (nn : Int) := by
  intro nn
  induction nn with
  | zero =>
    intro X d M Q q p o t nn a sg b W9 P9 hX hd hG hq hp q1 q2 q3 q4 q5 q6 q7 q8 q9 hm h
    exfalso; omega
  | succ nn ih =>
    intro X d M Q q p o t nn a sg b W9 P9 hX hd hG hq hp q1 q2 q3 q4 q5 q6 q7 q8 q9 hm h
    exact BE_58 hX hd hG hq hp q1 q2 q3 q4 q5 q6 q7 q8 q9 (fun X2 d2 M2 Q2 q2 p2 o2 t2 nn2 a2 sg2 b2 W92 P92 e71 e72 e73 hq2 hp2 q12 q22 q32 q42 q52 q62 q72 q82 q92 hm2 h2 => ih X2 d2 M2 Q2 q2 p2 o2 t2 nn2 a2 sg2 b2 W92 P92 e71 e72 e73 hq2 hp2 q12 q22 q32 q42 q52 q62 q72 q82 q92 (by omega) h2) h
theorem E_58 {X : mm_X} {d : Nat} {M : mm_M} {Q : Option Value → mm_M → Prop} {q : Nat} {p : Nat} {o : Int32} {t : Nat → Int} {nn : Int} {a : Int} {sg : x_S} {b : Int} {W9 : List Int} {P9 : x_GP} (hX : g_X X) (hd : 5 + 4 * (8 - o.toInt) ≤ (d : Int)) (hG : g_G M) (hq : q = 67 ∨ q = 72) (hp : p = 49 ∨ p = 58) (q1 : 0 ≤ o.toInt) (q2 : o.toInt ≤ 8) (q3 : o.toInt = b) (q4 : CS M t nn) (q5 : (M.2.1 1 9).toInt = a) (q6 : PLs M p sg) (q7 : LQc M q P9) (q8 : (M.2.1 q 4).toInt = P9.2 + x_wc W9) (q9 : ∀ P : x_GP, x_bd 1 W9 P = (W9, P) ∧ x_bd 2 W9 P = (W9, P)) (h : ∀ (r : Int32) (M1 : mm_M), g_G M1 → FR (md_qq q) M M1 → (0 ≤ r.toInt) → (r.toInt ≤ 1) → CS M1 t nn → (r.toInt = 1 → (M.2.1 q 4).toInt < (M1.2.1 q 4).toInt) → ((r.toInt = 1 → ∃ P2 : x_GP, LQc M1 q P2 ∧ (M1.2.1 q 4).toInt = P2.2 + x_wc W9 ∧ x_gg t nn sg 0 b (M.2.1 q 4).toInt W9 P9 a = x_gg t nn sg 1 b (M1.2.1 q 4).toInt W9 P2 (M1.2.1 1 9).toInt)) → ((r.toInt = 0 → x_gg t nn sg 0 b (M.2.1 q 4).toInt W9 P9 a = Sum.inl ((M1.2.1 1 10).toInt, (M1.2.1 1 11).toInt))) → ((r.toInt = 1 → ¬ (x_kind t nn (M1.2.1 1 9).toInt = 1 ∧ x_kx (x_val t nn (M1.2.1 1 9).toInt) = 12) ∧ ¬ (x_kind t nn (M1.2.1 1 9).toInt = 1 ∧ x_kx (x_val t nn (M1.2.1 1 9).toInt) = 13))) → Q (some (.int r)) M1) : mm_T X d 58 0 [.ref q, .ref 1, .ref p, .int o, .null] [] M Q := RE_58_all ((8 - o.toInt).toNat + 1) X d M Q q p o t nn a sg b W9 P9 hX hd hG hq hp q1 q2 q3 q4 q5 q6 q7 q8 q9 (by omega) h
set_option maxRecDepth 4000 in
set_option maxHeartbeats 0 in
theorem E_57 {X : mm_X} {d : Nat} {M : mm_M} {Q : Option Value → mm_M → Prop} {q : Nat} {p : Nat} {t : Nat → Int} {nn : Int} {a : Int} {sg : x_S} (hX : g_X X) (hd : 38 ≤ d) (hG : g_G M) (hq : q = 67 ∨ q = 72) (hp : p = 49 ∨ p = 58) (q1 : CS M t nn) (q2 : (M.2.1 1 9).toInt = a) (q3 : PLs M p sg) (h : ∀ (r : Int32) (M1 : mm_M), g_G M1 → FR (md_qq q) M M1 → (0 ≤ r.toInt) → (r.toInt ≤ 1) → CS M1 t nn → (r.toInt = 1 → 0 < (M1.2.1 q 4).toInt) → ((r.toInt = 1 → ∃ P2 : x_GP, LQc M1 q P2 ∧ (M1.2.1 q 4).toInt = P2.2 ∧ x_gg t nn sg 0 0 0 [] x_P0 a = Sum.inr P2)) → ((r.toInt = 0 → x_gg t nn sg 0 0 0 [] x_P0 a = Sum.inl ((M1.2.1 1 10).toInt, (M1.2.1 1 11).toInt))) → Q (some (.int r)) M1) : mm_T X d 57 0 [.ref q, .ref 1, .ref p] [] M Q := by
  have F0 : FR (md_qq q) M M := FR.rf
  have c_1 := CS_u q1 (a := a) (by omega)
  unfold x_C at c_1
  refine to_an (pc := 0) rw_57_0 rfl (s_v (pc := 1) rw_57_1 (dp0 hd (by decide)) (ls0 := [.ref q]) rfl (Nat.le_of_ble_eq_true rfl) (Nat.le_of_ble_eq_true rfl) rfl (to_rc rfl rfl rfl (g_o hG (by rcases hq with rfl | rfl <;> rfl))) rfl (to_an (pc := 0) rw_56_0 rfl (to_c (pc := 1) rw_56_1 (x := (0 : Int32)) rfl rfl (s_pI (pc := 2) rw_56_2 hG (by rcases hq with rfl | rfl <;> rfl) (fun M3 W2 => ?_)))))
  have hG4 := g_w hG W2 (A := 0) rfl (lo := 0) (hi := 40) (by rcases hq with rfl | rfl <;> rfl) (by rcases hq with rfl | rfl <;> rfl) (by omega) (by omega)
  have F5 := FR.w F0 W2 (show q = 1 ∧ 5 ≤ 4 ∨ 3 ≤ q ∧ q ≤ 5 ∨ q ≤ q ∧ q ≤ q + 4 by omega)
  refine to_an (pc := 5) rw_56_5 rfl (to_c (pc := 6) rw_56_6 (x := (0 : Int32)) rfl rfl (s_pI (pc := 7) rw_56_7 hG4 (by rcases hq with rfl | rfl <;> rfl) (fun M7 W6 => ?_)))
  have hG8 := g_w hG4 W6 (A := 0) rfl (lo := 0) (hi := 40) (by rcases hq with rfl | rfl <;> rfl) (by rcases hq with rfl | rfl <;> rfl) (by omega) (by omega)
  have F9 := FR.w F5 W6 (show q = 1 ∧ 5 ≤ 5 ∨ 3 ≤ q ∧ q ≤ 5 ∨ q ≤ q ∧ q ≤ q + 4 by omega)
  refine to_rv (pc := 10) rw_56_10 (to_an (pc := 4) rw_57_4 rfl (to_an (pc := 5) rw_57_5 rfl (to_an (pc := 6) rw_57_6 rfl (to_c (pc := 7) rw_57_7 (x := (0 : Int32)) rfl rfl (s_v (pc := 8) rw_57_8 (dp0 hd (by decide)) (ls0 := [.ref q, .ref 1, .ref p, .int (0 : Int32), .null]) rfl (Nat.le_of_ble_eq_true rfl) (Nat.le_of_ble_eq_true rfl) rfl (to_rc rfl rfl rfl (g_o hG8 (by rcases hq with rfl | rfl <;> rfl))) rfl ?_)))))
  have k_10 : (0 : Int32).toInt = 0 := rfl
  have c_11 : M7.2.1 q 4 = (0 : Int32) := (W_n W6 (by omega) (W_e W2))
  have t_12 : (M7.2.1 q 4).toInt = (0 : Int32).toInt := congrArg Int32.toInt c_11
  have c_13 : M7.2.1 q 5 = (0 : Int32) := (W_e W6)
  have t_14 : (M7.2.1 q 5).toInt = (0 : Int32).toInt := congrArg Int32.toInt c_13
  have z_15 := LQc_0 (q := q) (M := M7) (by omega)
  have z_16 : x_P0.2 = 0 := rfl
  have z_17 : x_wc [] = 0 := rfl
  have j_18 := (CS_f (fun a i z => W_n W6 (by omega) rfl) (CS_f (fun a i z => W_n W2 (by omega) rfl) q1))
  have c_19 : M7.2.1 1 9 = (M.2.1 1 9) := (W_n W6 (by omega) (W_n W2 (by omega) rfl))
  have t_20 : (M7.2.1 1 9).toInt = (M.2.1 1 9).toInt := congrArg Int32.toInt c_19
  have j_21 := (PLs_f (fun a i z => W_n W6 (by omega) rfl) (PLs_f (fun a i z => W_n W2 (by omega) rfl) q3))
  refine E_58 hX (by omega) hG8 hq hp (by omega) (by omega) (by omega) j_18 (by omega) j_21 z_15 (by omega) (fun P => ⟨rfl, rfl⟩) (q := q) (p := p) (o := (0 : Int32)) (t := t) (nn := nn) (a := a) (sg := sg) (b := b) (W9 := W9) (P9 := P9) (fun r22 M32 hG24 F23 p_25 p_26 p_27 p_28 p_29 p_30 p_31 => ?_)
  have F33 := FR.c F9 F23 (fun a i z => show a = 1 ∧ 5 ≤ i ∨ 3 ≤ a ∧ a ≤ 5 ∨ q ≤ a ∧ a ≤ q + 4 by have z : a = 1 ∧ 5 ≤ i ∨ 3 ≤ a ∧ a ≤ 5 ∨ q ≤ a ∧ a ≤ q + 4 := z; omega)
  have b_34 := g_b hG24 (a := q) (i := 4) (lo := 0) (hi := 40) (by rcases hq with rfl | rfl <;> rfl) (by rcases hq with rfl | rfl <;> rfl)
  rcases (show r22.toInt = 0 ∨ r22.toInt = 1 by (first | (clear p_28 p_29 p_30 p_31; omega) | omega)) with h35 | h35
  · skip
    have p_36 := p_30 (by (first | (clear p_28 p_29 p_30 p_31; omega) | omega))
    clear p_28 p_29 p_30 p_31
    have z_37 := (g_v (s := sg) rfl rfl (show (0 : Int) = (M7.2.1 q 4).toInt by (first | (clear p_28 p_29 p_30 p_31; omega) | omega)) rfl rfl).trans p_36
    refine b_ieq_t (pc := 11) rw_57_11 (A := r22.toInt) rfl (by (first | (clear p_28 p_29 p_30 p_31; omega) | omega)) (to_c (pc := 25) rw_57_25 (x := (0 : Int32)) rfl rfl (s_r1 (pc := 26) rw_57_26 (A := 0) rfl (by decide) ?_))
    exact h (0 : Int32) M32 hG24 F33 (by decide) (by decide) p_27 (by (first | (clear p_28 p_29 p_30 p_31; omega) | omega)) (fun z => by exfalso; omega) (fun _ => ginl (by (first | (clear p_28 p_29 p_30 p_31; omega) | omega)) (by (first | (clear p_28 p_29 p_30 p_31; omega) | omega)) z_37)
  · skip
    have p_38 := p_28 (by (first | (clear p_28 p_29 p_30 p_31; omega) | omega))
    have p_39 := p_29 (by (first | (clear p_28 p_29 p_30 p_31; omega) | omega))
    have p_40 := p_31 (by (first | (clear p_28 p_29 p_30 p_31; omega) | omega))
    clear p_28 p_29 p_30 p_31
    obtain ⟨P41, P41a, P41b, P41c⟩ := p_39
    have z_42 := P41a.1
    have z_43 := (g_v (s := sg) rfl rfl (show (0 : Int) = (M7.2.1 q 4).toInt by (first | (clear p_28 p_29 p_30 p_31; omega) | omega)) rfl rfl).trans P41c
    have c_44 := CS_u p_27 (a := (M32.2.1 1 9).toInt) (by (first | (clear p_28 p_29 p_30 p_31; omega) | omega))
    unfold x_C at c_44
    have z_45 := x_kx_q (x_val t nn (M32.2.1 1 9).toInt)
    refine b_ieq_f (pc := 11) rw_57_11 (A := r22.toInt) rfl (by (first | (clear p_28 p_29 p_30 p_31; omega) | omega)) (to_an (pc := 14) rw_57_14 rfl (s_v (pc := 15) rw_57_15 (dp0 hd (by decide)) (ls0 := [.ref 1]) rfl (Nat.le_of_ble_eq_true rfl) (Nat.le_of_ble_eq_true rfl) rfl (to_rc rfl rfl rfl (g_o hG24 rfl)) rfl (to_an (pc := 0) rw_87_0 rfl (tt_gI (pc := 1) rw_87_1 (g_o hG24 rfl) (v := (M32.2.1 1 7)) rfl (b_ieq (pc := 4) rw_87_4 (A := (M32.2.1 1 7).toInt) rfl (fun h46 => ?_) (fun h46 => ?_))))))
    · refine to_c (pc := 15) rw_87_15 (x := (1 : Int32)) rfl rfl (to_go (pc := 16) rw_87_16 (s_r1 (pc := 20) rw_87_20 (A := 1) rfl (by decide) (b_ieq_f (pc := 18) rw_57_18 (A := 1) rfl (by decide) (to_c (pc := 21) rw_57_21 (x := (1 : Int32)) rfl rfl (to_go (pc := 22) rw_57_22 (s_r1 (pc := 26) rw_57_26 (A := 1) rfl (by decide) ?_))))))
      have k_47 : (1 : Int32).toInt = 1 := rfl
      exact h (1 : Int32) M32 hG24 F33 (by decide) (by decide) p_27 (by (first | (clear p_28 p_29 p_30 p_31; omega) | omega)) (fun _ => ⟨P41, P41a, (by (first | (clear p_28 p_29 p_30 p_31; omega) | omega)), (z_43.trans (g_end (by (first | (clear p_28 p_29 p_30 p_31; omega) | omega)) (by (first | (clear p_28 p_29 p_30 p_31; omega) | omega)) (by (first | (clear p_28 p_29 p_30 p_31; omega) | omega)) rfl))⟩) (fun z => by exfalso; omega)
    · refine to_an (pc := 7) rw_87_7 rfl (to_c (pc := 8) rw_87_8 (x := (1 : Int32)) rfl rfl (s_v (pc := 9) rw_87_9 (dp1 hd (by decide)) (ls0 := [.ref 1, .int (1 : Int32)]) rfl (Nat.le_of_ble_eq_true rfl) (Nat.le_of_ble_eq_true rfl) rfl (to_rc rfl rfl rfl (g_o hG24 rfl)) rfl (to_an (pc := 0) rw_84_0 rfl (to_in (pc := 1) rw_84_1 rfl (s_pI (pc := 2) rw_84_2 hG24 rfl (fun M49 W48 => ?_))))))
      have hG50 := g_wf hG24 W48 rfl rfl (by decide)
      have F51 := FR.w F33 W48 (show 1 = 1 ∧ 5 ≤ 10 ∨ 3 ≤ 1 ∧ 1 ≤ 5 ∨ q ≤ 1 ∧ 1 ≤ q + 4 by (first | (clear p_28 p_29 p_30 p_31 h46; omega) | (clear p_28 p_29 p_30 p_31; omega) | omega))
      refine to_an (pc := 5) rw_84_5 rfl (to_an (pc := 6) rw_84_6 rfl ?_)
      have c_52 : M49.2.1 1 9 = (M32.2.1 1 9) := (W_n W48 (by decide) rfl)
      refine tt_gI (pc := 7) rw_84_7 (g_o hG50 rfl) (v := (M32.2.1 1 9)) c_52 (s_pI (pc := 10) rw_84_10 hG50 rfl (fun M54 W53 => ?_))
      have hG55 := g_wf hG50 W53 rfl rfl (by decide)
      have F56 := FR.w F51 W53 (show 1 = 1 ∧ 5 ≤ 11 ∨ 3 ≤ 1 ∧ 1 ≤ 5 ∨ q ≤ 1 ∧ 1 ≤ q + 4 by (first | (clear p_28 p_29 p_30 p_31 h46; omega) | (clear p_28 p_29 p_30 p_31; omega) | omega))
      refine to_c (pc := 13) rw_84_13 (x := (0 : Int32)) rfl rfl (s_r1 (pc := 14) rw_84_14 (A := 0) rfl (by decide) (b_ieq_t (pc := 12) rw_87_12 (A := 0) rfl (by decide) (to_c (pc := 19) rw_87_19 (x := (0 : Int32)) rfl rfl (s_r1 (pc := 20) rw_87_20 (A := 0) rfl (by decide) (b_ieq_t (pc := 18) rw_57_18 (A := 0) rfl (by decide) (to_c (pc := 25) rw_57_25 (x := (0 : Int32)) rfl rfl (s_r1 (pc := 26) rw_57_26 (A := 0) rfl (by decide) ?_)))))))
      have j_57 := (CS_f (fun a i z => W_n W53 (tg_32 a i z) rfl) (CS_f (fun a i z => W_n W48 (tg_33 a i z) rfl) p_27))
      have c_58 : M54.2.1 q 4 = (M32.2.1 q 4) := (W_n W53 (by (first | (clear p_28 p_29 p_30 p_31 h46; omega) | (clear p_28 p_29 p_30 p_31; omega) | omega)) (W_n W48 (by (first | (clear p_28 p_29 p_30 p_31 h46; omega) | (clear p_28 p_29 p_30 p_31; omega) | omega)) rfl))
      have t_59 : (M54.2.1 q 4).toInt = (M32.2.1 q 4).toInt := congrArg Int32.toInt c_58
      have c_60 : M54.2.1 1 10 = (1 : Int32) := (W_n W53 (by decide) (W_e W48))
      have k_61 : (1 : Int32).toInt = 1 := rfl
      have t_62 : (M54.2.1 1 10).toInt = (1 : Int32).toInt := congrArg Int32.toInt c_60
      have c_63 : M54.2.1 1 11 = (M32.2.1 1 9) := (W_e W53)
      have t_64 : (M54.2.1 1 11).toInt = (M32.2.1 1 9).toInt := congrArg Int32.toInt c_63
      exact h (0 : Int32) M54 hG55 F56 (by decide) (by decide) j_57 (by (first | (clear p_28 p_29 p_30 p_31 h46; omega) | (clear p_28 p_29 p_30 p_31; omega) | omega)) (fun z => by exfalso; omega) (fun _ => ginl (by (first | (clear p_28 p_29 p_30 p_31 h46; omega) | (clear p_28 p_29 p_30 p_31; omega) | omega)) (by (first | (clear p_28 p_29 p_30 p_31 h46; omega) | (clear p_28 p_29 p_30 p_31; omega) | omega)) (z_43.trans (g_1x (by (first | (clear p_28 p_29 p_30 p_31 h46; omega) | (clear p_28 p_29 p_30 p_31; omega) | omega)) (by (first | (clear p_28 p_29 p_30 p_31 h46; omega) | (clear p_28 p_29 p_30 p_31; omega) | omega)) (by (first | (clear p_28 p_29 p_30 p_31 h46; omega) | (clear p_28 p_29 p_30 p_31; omega) | omega)) (by (first | (clear p_28 p_29 p_30 p_31 h46; omega) | (clear p_28 p_29 p_30 p_31; omega) | omega)) (by (first | (clear p_28 p_29 p_30 p_31 h46; omega) | (clear p_28 p_29 p_30 p_31; omega) | omega)))))
