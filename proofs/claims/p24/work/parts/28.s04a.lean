noncomputable def RE_58 (k : Int) : Prop := ∀ (X : mm_X) (d : Nat) (M : mm_M) (Q : Option Value → mm_M → Prop) (q : Nat) (p : Nat) (o : Int32) (t : Nat → Int) (nn : Int) (a : Int) (sg : x_S) (b : Int) (W9 : List Int) (P9 : x_GP), g_X X → (5 + 4 * (8 - o.toInt) ≤ (d : Int)) → g_G M → (q = 67 ∨ q = 72) → (p = 49 ∨ p = 58) → (0 ≤ o.toInt) → (o.toInt ≤ 8) → (o.toInt = b) → CS M t nn → ((M.2.1 1 9).toInt = a) → PLs M p sg → (LQc M q P9) → ((M.2.1 q 4).toInt = P9.2 + x_wc W9) → (∀ P : x_GP, x_bd 1 W9 P = (W9, P) ∧ x_bd 2 W9 P = (W9, P)) → 8 - o.toInt < k → (∀ (r : Int32) (M1 : mm_M), g_G M1 → FR (md_qq q) M M1 → (0 ≤ r.toInt) → (r.toInt ≤ 1) → CS M1 t nn → (r.toInt = 1 → (M.2.1 q 4).toInt < (M1.2.1 q 4).toInt) → ((r.toInt = 1 → ∃ P2 : x_GP, LQc M1 q P2 ∧ (M1.2.1 q 4).toInt = P2.2 + x_wc W9 ∧ x_gg t nn sg 0 b (M.2.1 q 4).toInt W9 P9 a = x_gg t nn sg 1 b (M1.2.1 q 4).toInt W9 P2 (M1.2.1 1 9).toInt)) → ((r.toInt = 0 → x_gg t nn sg 0 b (M.2.1 q 4).toInt W9 P9 a = Sum.inl ((M1.2.1 1 10).toInt, (M1.2.1 1 11).toInt))) → ((r.toInt = 1 → ¬ (x_kind t nn (M1.2.1 1 9).toInt = 1 ∧ x_kx (x_val t nn (M1.2.1 1 9).toInt) = 12) ∧ ¬ (x_kind t nn (M1.2.1 1 9).toInt = 1 ∧ x_kx (x_val t nn (M1.2.1 1 9).toInt) = 13))) → Q (some (.int r)) M1) → mm_T X d 58 0 [.ref q, .ref 1, .ref p, .int o, .null] [] M Q
set_option maxRecDepth 4000 in
set_option maxHeartbeats 0 in
theorem E_61 {X : mm_X} {d : Nat} {M : mm_M} {Q : Option Value → mm_M → Prop} {q : Nat} {p : Nat} {o : Int32} {t : Nat → Int} {nn : Int} {a : Int} {sg : x_S} {b : Int} {W9 : List Int} {P9 : x_GP} (hX : g_X X) (hd : 2 + 4 * (8 - o.toInt) ≤ (d : Int)) (hG : g_G M) (hq : q = 67 ∨ q = 72) (hp : p = 49 ∨ p = 58) (q1 : 0 ≤ o.toInt) (q2 : o.toInt ≤ 8) (q3 : o.toInt = b) (q4 : CS M t nn) (q5 : (M.2.1 1 9).toInt = a) (q6 : PLs M p sg) (q7 : LQc M q P9) (q8 : (M.2.1 q 4).toInt = P9.2 + x_wc W9) (q9 : x_kind t nn a = 4 ∧ x_val t nn a = 40) (hr : RE_58 (8 - o.toInt)) (h : ∀ (r : Int32) (M1 : mm_M), g_G M1 → FR (md_qq q) M M1 → (0 ≤ r.toInt) → (r.toInt ≤ 1) → CS M1 t nn → (r.toInt = 1 → (M.2.1 q 4).toInt < (M1.2.1 q 4).toInt) → ((r.toInt = 1 → ∃ P2 : x_GP, LQc M1 q P2 ∧ (M1.2.1 q 4).toInt = P2.2 + x_wc W9 ∧ x_gg t nn sg 0 b (M.2.1 q 4).toInt W9 P9 a = x_gg t nn sg 1 b (M1.2.1 q 4).toInt W9 P2 (M1.2.1 1 9).toInt)) → ((r.toInt = 0 → x_gg t nn sg 0 b (M.2.1 q 4).toInt W9 P9 a = Sum.inl ((M1.2.1 1 10).toInt, (M1.2.1 1 11).toInt))) → Q (some (.int r)) M1) : mm_T X d 61 0 [.ref q, .ref 1, .ref p, .int o] [] M Q := by
  have F0 : FR (md_qq q) M M := FR.rf
  have b_1 := g_b hG (a := q) (i := 4) (lo := 0) (hi := 40) (by rcases hq with rfl | rfl <;> rfl) (by rcases hq with rfl | rfl <;> rfl)
  have c_2 := CS_u q4 (a := a) (by omega)
  unfold x_C at c_2
  have z_3 := x_wc_b W9
  have z_4 := x_wc_0 (W := W9)
  refine to_in (pc := 0) rw_61_0 rfl (to_c (pc := 1) rw_61_1 (x := (8 : Int32)) rfl rfl (b_clt (pc := 3) rw_61_3 (A := o.toInt) (B := 8) rfl rfl (fun h5 => ?_) (fun h5 => ?_)))
  · refine to_an (pc := 12) rw_61_12 rfl (s_v (pc := 13) rw_61_13 (by omega) (ls0 := [.ref 1]) rfl (Nat.le_of_ble_eq_true rfl) (Nat.le_of_ble_eq_true rfl) rfl (to_rc rfl rfl rfl (g_o hG rfl)) rfl (E_83 hX (by omega) hG q4 (by omega) (t := t) (nn := nn) (a := a) (fun M10 hG7 F6 p_8 p_9 => ?_)))
    have F11 := FR.c F0 F6 (fun a i z => show a = 1 ∧ 5 ≤ i ∨ 3 ≤ a ∧ a ≤ 5 ∨ q ≤ a ∧ a ≤ q + 4 by have z : a = 1 ∧ 6 ≤ i ∧ i ≤ 9 := z; omega)
    have z_12 := (g_lp (t := t) (nn := nn) (s := sg) (br := b) (cn := (M.2.1 q 4).toInt) (W := W9) (P := P9) (a := a) (by omega) (by omega) q9 (by omega))
    refine to_an (pc := 16) rw_61_16 rfl (to_an (pc := 17) rw_61_17 rfl (to_an (pc := 18) rw_61_18 rfl (to_in (pc := 19) rw_61_19 rfl (to_c (pc := 20) rw_61_20 (x := (1 : Int32)) rfl rfl (s_add (pc := 21) rw_61_21 (A := o.toInt) (B := 1) rfl rfl (by omega) (fun v13 e14 => s_v (pc := 22) rw_61_22 (by omega) (ls0 := [.ref q, .ref 1, .ref p, .int v13, .null]) rfl (Nat.le_of_ble_eq_true rfl) (Nat.le_of_ble_eq_true rfl) rfl (to_rc rfl rfl rfl (g_o hG7 (by rcases hq with rfl | rfl <;> rfl))) rfl ?_))))))
    have c_15 : M10.2.1 q 4 = (M.2.1 q 4) := (F_n F6 (show ¬ (q = 1 ∧ 6 ≤ 4 ∧ 4 ≤ 9) by omega) rfl)
    have t_16 : (M10.2.1 q 4).toInt = (M.2.1 q 4).toInt := congrArg Int32.toInt c_15
    have j_17 := (PLs_f (fun a i z => F_n F6 (show ¬ (a = 1 ∧ 6 ≤ i ∧ i ≤ 9) by omega) rfl) q6)
    have z_18 := LQc_f (fun a i z => (F_n F6 (show ¬ (a = 1 ∧ 6 ≤ i ∧ i ≤ 9) by omega) rfl)) q7
    refine hr X _ _ _ q p v13 t nn (x_ns t nn a) sg (b + 1) (0 :: W9) P9 hX (by omega) hG7 hq hp (by omega) (by omega) (by omega) p_8 (by omega) j_17 z_18 (by omega) (fun P => ⟨bd_0 (by decide), bd_0 (by decide)⟩) (by omega) (fun r19 M29 hG21 F20 p_22 p_23 p_24 p_25 p_26 p_27 p_28 => ?_)
    have F30 := FR.c F11 F20 (fun a i z => show a = 1 ∧ 5 ≤ i ∨ 3 ≤ a ∧ a ≤ 5 ∨ q ≤ a ∧ a ≤ q + 4 by have z : a = 1 ∧ 5 ≤ i ∨ 3 ≤ a ∧ a ≤ 5 ∨ q ≤ a ∧ a ≤ q + 4 := z; omega)
    have b_31 := g_b hG21 (a := q) (i := 4) (lo := 0) (hi := 40) (by rcases hq with rfl | rfl <;> rfl) (by rcases hq with rfl | rfl <;> rfl)
    rcases (show r19.toInt = 0 ∨ r19.toInt = 1 by omega) with h32 | h32
    · skip
      have p_33 := p_27 (by omega)
      clear p_25 p_26 p_27 p_28
      have z_34 := z_12.trans ((g_v rfl rfl (show (M.2.1 q 4).toInt = (M10.2.1 q 4).toInt by omega) rfl rfl).trans p_33)
      refine b_ieq_t (pc := 25) rw_61_25 (A := r19.toInt) rfl (by omega) (to_c (pc := 41) rw_61_41 (x := (0 : Int32)) rfl rfl (s_r1 (pc := 42) rw_61_42 (A := 0) rfl (by decide) ?_))
      have k_35 : (0 : Int32).toInt = 0 := rfl
      exact h (0 : Int32) M29 hG21 F30 (by decide) (by decide) p_24 (by omega) (fun z => by exfalso; omega) (fun _ => ginl (by omega) (by omega) z_34)
    · skip
      have p_36 := p_25 (by omega)
      have p_37 := p_26 (by omega)
      have p_38 := p_28 (by omega)
      clear p_25 p_26 p_27 p_28
      obtain ⟨P39, P39a, P39b, P39c⟩ := p_37
      have z_40 := P39a.1
      have z_41 := z_12.trans ((g_v rfl rfl (show (M.2.1 q 4).toInt = (M10.2.1 q 4).toInt by omega) rfl rfl).trans P39c)
      have c_42 := CS_u p_24 (a := (M29.2.1 1 9).toInt) (by omega)
      unfold x_C at c_42
      refine b_ieq_f (pc := 25) rw_61_25 (A := r19.toInt) rfl (by omega) (to_an (pc := 28) rw_61_28 rfl (to_c (pc := 29) rw_61_29 (x := (41 : Int32)) rfl rfl (s_v (pc := 31) rw_61_31 (by omega) (ls0 := [.ref 1, .int (41 : Int32)]) rfl (Nat.le_of_ble_eq_true rfl) (Nat.le_of_ble_eq_true rfl) rfl (to_rc rfl rfl rfl (g_o hG21 rfl)) rfl ?_)))
      have k_43 : (41 : Int32).toInt = 41 := rfl
      refine E_90s hX (by omega) hG21 p_24 (by omega) (by omega) (c := (41 : Int32)) (t := t) (nn := nn) (a := (M29.2.1 1 9).toInt) (fun r44 M53 hG46 F45 p_47 p_48 p_49 p_50 p_51 p_52 => ?_)
      have F54 := FR.c F30 F45 (fun a i z => show a = 1 ∧ 5 ≤ i ∨ 3 ≤ a ∧ a ≤ 5 ∨ q ≤ a ∧ a ≤ q + 4 by have z : a = 1 ∧ 6 ≤ i ∧ i ≤ 11 := z; omega)
      rcases (show r44.toInt = 0 ∨ r44.toInt = 1 by (first | (clear p_50 p_51 p_52; omega) | omega)) with h55 | h55
      · skip
        have p_56 := p_51 (by (first | (clear p_50 p_51 p_52; omega) | omega))
        have p_57 := p_52 (by (first | (clear p_50 p_51 p_52; omega) | omega))
        clear p_50 p_51 p_52
        have z_58 := z_41.trans (g_1x (by (first | (clear p_50 p_51 p_52; omega) | omega)) (by (first | (clear p_50 p_51 p_52; omega) | omega)) (by (first | (clear p_50 p_51 p_52; omega) | omega)) (by (first | (clear p_50 p_51 p_52; omega) | omega)) (by (first | (clear p_50 p_51 p_52; omega) | omega)))
        refine b_ieq_t (pc := 34) rw_61_34 (A := r44.toInt) rfl (by (first | (clear p_50 p_51 p_52; omega) | omega)) (to_c (pc := 41) rw_61_41 (x := (0 : Int32)) rfl rfl (s_r1 (pc := 42) rw_61_42 (A := 0) rfl (by decide) ?_))
        have k_59 : (0 : Int32).toInt = 0 := rfl
        have c_60 : M53.2.1 q 4 = (M29.2.1 q 4) := (F_n F45 (show ¬ (q = 1 ∧ 6 ≤ 4 ∧ 4 ≤ 11) by (first | (clear p_50 p_51 p_52; omega) | omega)) rfl)
        have t_61 : (M53.2.1 q 4).toInt = (M29.2.1 q 4).toInt := congrArg Int32.toInt c_60
        exact h (0 : Int32) M53 hG46 F54 (by decide) (by decide) p_49 (by (first | (clear p_50 p_51 p_52; omega) | omega)) (fun z => by exfalso; omega) (fun _ => ginl (by (first | (clear p_50 p_51 p_52; omega) | omega)) (by (first | (clear p_50 p_51 p_52; omega) | omega)) z_58)
      · skip
        have p_62 := p_50 (by (first | (clear p_50 p_51 p_52; omega) | omega))
        clear p_50 p_51 p_52
        have z_63 : x_gg t nn sg 0 b (M.2.1 q 4).toInt W9 P9 a = x_gg t nn sg 1 b (M29.2.1 q 4).toInt W9 P39 (x_ns t nn (M29.2.1 1 9).toInt) := z_41.trans ((g_rp (by (first | (clear p_50 p_51 p_52; omega) | omega)) (by (first | (clear p_50 p_51 p_52; omega) | omega)) (by (first | (clear p_50 p_51 p_52; omega) | omega)) (by (first | (clear p_50 p_51 p_52; omega) | omega))).trans (by rw [bd_0 (by decide)]; exact g_v rfl (show b + 1 - 1 = b by (first | (clear p_50 p_51 p_52; omega) | omega)) rfl rfl rfl))
        refine b_ieq_f (pc := 34) rw_61_34 (A := r44.toInt) rfl (by (first | (clear p_50 p_51 p_52; omega) | omega)) (to_c (pc := 37) rw_61_37 (x := (1 : Int32)) rfl rfl (to_go (pc := 38) rw_61_38 (s_r1 (pc := 42) rw_61_42 (A := 1) rfl (by decide) ?_)))
        have k_64 : (1 : Int32).toInt = 1 := rfl
        have c_65 : M53.2.1 q 4 = (M29.2.1 q 4) := (F_n F45 (show ¬ (q = 1 ∧ 6 ≤ 4 ∧ 4 ≤ 11) by (first | (clear p_50 p_51 p_52; omega) | omega)) rfl)
        have t_66 : (M53.2.1 q 4).toInt = (M29.2.1 q 4).toInt := congrArg Int32.toInt c_65
        have z_67 := LQc_f (fun a i z => (F_n F45 (show ¬ (a = 1 ∧ 6 ≤ i ∧ i ≤ 11) by (first | (clear p_50 p_51 p_52; omega) | omega)) rfl)) P39a
        exact h (1 : Int32) M53 hG46 F54 (by decide) (by decide) p_49 (by (first | (clear p_50 p_51 p_52; omega) | omega)) (fun _ => ⟨P39, z_67, (by (first | (clear p_50 p_51 p_52; omega) | omega)), z_63.trans (g_v rfl rfl (show (M29.2.1 q 4).toInt = (M53.2.1 q 4).toInt by (first | (clear p_50 p_51 p_52; omega) | omega)) rfl (show (x_ns t nn (M29.2.1 1 9).toInt) = (M53.2.1 1 9).toInt by (first | (clear p_50 p_51 p_52; omega) | omega)))⟩) (fun z => by exfalso; omega)
  · refine to_an (pc := 6) rw_61_6 rfl (to_c (pc := 7) rw_61_7 (x := (2 : Int32)) rfl rfl (s_v (pc := 8) rw_61_8 (by omega) (ls0 := [.ref 1, .int (2 : Int32)]) rfl (Nat.le_of_ble_eq_true rfl) (Nat.le_of_ble_eq_true rfl) rfl (to_rc rfl rfl rfl (g_o hG rfl)) rfl (to_an (pc := 0) rw_84_0 rfl (to_in (pc := 1) rw_84_1 rfl (s_pI (pc := 2) rw_84_2 hG rfl (fun M69 W68 => ?_))))))
    have hG70 := g_wf hG W68 rfl rfl (by decide)
    have F71 := FR.w F0 W68 (show 1 = 1 ∧ 5 ≤ 10 ∨ 3 ≤ 1 ∧ 1 ≤ 5 ∨ q ≤ 1 ∧ 1 ≤ q + 4 by omega)
    refine to_an (pc := 5) rw_84_5 rfl (to_an (pc := 6) rw_84_6 rfl ?_)
    have c_72 : M69.2.1 1 9 = (M.2.1 1 9) := (W_n W68 (by decide) rfl)
    refine tt_gI (pc := 7) rw_84_7 (g_o hG70 rfl) (v := (M.2.1 1 9)) c_72 (s_pI (pc := 10) rw_84_10 hG70 rfl (fun M74 W73 => ?_))
    have hG75 := g_wf hG70 W73 rfl rfl (by decide)
    have F76 := FR.w F71 W73 (show 1 = 1 ∧ 5 ≤ 11 ∨ 3 ≤ 1 ∧ 1 ≤ 5 ∨ q ≤ 1 ∧ 1 ≤ q + 4 by omega)
    refine to_c (pc := 13) rw_84_13 (x := (0 : Int32)) rfl rfl (s_r1 (pc := 14) rw_84_14 (A := 0) rfl (by decide) (s_r1 (pc := 11) rw_61_11 (A := 0) rfl (by decide) ?_))
    have k_77 : (0 : Int32).toInt = 0 := rfl
    have j_78 := (CS_f (fun a i z => W_n W73 (tg_32 a i z) rfl) (CS_f (fun a i z => W_n W68 (tg_33 a i z) rfl) q4))
    have c_79 : M74.2.1 q 4 = (M.2.1 q 4) := (W_n W73 (by omega) (W_n W68 (by omega) rfl))
    have t_80 : (M74.2.1 q 4).toInt = (M.2.1 q 4).toInt := congrArg Int32.toInt c_79
    have c_81 : M74.2.1 1 10 = (2 : Int32) := (W_n W73 (by decide) (W_e W68))
    have k_82 : (2 : Int32).toInt = 2 := rfl
    have t_83 : (M74.2.1 1 10).toInt = (2 : Int32).toInt := congrArg Int32.toInt c_81
    have c_84 : M74.2.1 1 11 = (M.2.1 1 9) := (W_e W73)
    have t_85 : (M74.2.1 1 11).toInt = (M.2.1 1 9).toInt := congrArg Int32.toInt c_84
    exact h (0 : Int32) M74 hG75 F76 (by decide) (by decide) j_78 (by omega) (fun z => by exfalso; omega) (fun _ => ginl (by omega) (by omega) (g_lpx (by omega) (by omega) q9 (by omega)))
