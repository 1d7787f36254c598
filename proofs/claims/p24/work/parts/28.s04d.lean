set_option maxRecDepth 4000 in
set_option maxHeartbeats 0 in
theorem U_58_0 {X : mm_X} {d : Nat} {M : mm_M} {Q : Option Value → mm_M → Prop} {q : Nat} {p : Nat} {o : Int32} {t : Nat → Int} {nn : Int} {a : Int} {sg : x_S} {b : Int} {W9 : List Int} {P9 : x_GP} (hX : g_X X) (hd : 5 + 4 * (8 - o.toInt) ≤ (d : Int)) (hq : q = 67 ∨ q = 72) (hp : p = 49 ∨ p = 58) (q1 : 0 ≤ o.toInt) (q2 : o.toInt ≤ 8) (q3 : o.toInt = b) (q4 : CS M t nn) (q5 : (M.2.1 1 9).toInt = a) (q6 : PLs M p sg) (q7 : LQc M q P9) (q8 : (M.2.1 q 4).toInt = P9.2 + x_wc W9) (q9 : ∀ P : x_GP, x_bd 1 W9 P = (W9, P) ∧ x_bd 2 W9 P = (W9, P)) (hr : RE_58 (8 - o.toInt)) (h : ∀ (r : Int32) (M1 : mm_M), g_G M1 → FR (md_qq q) M M1 → (0 ≤ r.toInt) → (r.toInt ≤ 1) → CS M1 t nn → (r.toInt = 1 → (M.2.1 q 4).toInt < (M1.2.1 q 4).toInt) → ((r.toInt = 1 → ∃ P2 : x_GP, LQc M1 q P2 ∧ (M1.2.1 q 4).toInt = P2.2 + x_wc W9 ∧ x_gg t nn sg 0 b (M.2.1 q 4).toInt W9 P9 a = x_gg t nn sg 1 b (M1.2.1 q 4).toInt W9 P2 (M1.2.1 1 9).toInt)) → ((r.toInt = 0 → x_gg t nn sg 0 b (M.2.1 q 4).toInt W9 P9 a = Sum.inl ((M1.2.1 1 10).toInt, (M1.2.1 1 11).toInt))) → ((r.toInt = 1 → ¬ (x_kind t nn (M1.2.1 1 9).toInt = 1 ∧ x_kx (x_val t nn (M1.2.1 1 9).toInt) = 12) ∧ ¬ (x_kind t nn (M1.2.1 1 9).toInt = 1 ∧ x_kx (x_val t nn (M1.2.1 1 9).toInt) = 13))) → Q (some (.int r)) M1) : ∀ nn9 : Nat, (∀ (N : mm_M) (x4 : Int32), g_G N → FR (md_qq q) M N → (0 ≤ x4.toInt) → (x4.toInt ≤ 41) → (x4.toInt ≤ (N.2.1 q 4).toInt) → (o.toInt = o.toInt) → (CS N t nn) → (PLs N p sg) → ((M.2.1 q 4).toInt < (N.2.1 q 4).toInt) → (∃ P2 : x_GP, LQc N q P2 ∧ (N.2.1 q 4).toInt = P2.2 + x_wc W9 ∧ x_gg t nn sg 0 b (M.2.1 q 4).toInt W9 P9 a = x_gg t nn sg 1 b (N.2.1 q 4).toInt W9 P2 (N.2.1 1 9).toInt) → (¬ (x_kind t nn (N.2.1 1 9).toInt = 1 ∧ x_kx (x_val t nn (N.2.1 1 9).toInt) = 12)) → 41 - x4.toInt < (nn9 : Int) → mm_T X d 58 15 [.ref q, .ref 1, .ref p, .int o, .int x4] [] N Q) := by
  intro nn9
  induction nn9 with
  | zero =>
    intro N x4 hG F0 g1 g2 g3 g4 g5 g6 g7 g8 g9 hm
    have b_1 := g_b hG (a := q) (i := 4) (lo := 0) (hi := 40) (by rcases hq with rfl | rfl <;> rfl) (by rcases hq with rfl | rfl <;> rfl)
    exfalso; omega
  | succ nn9 ih =>
    intro N x4 hG F0 g1 g2 g3 g4 g5 g6 g7 g8 g9 hm
    have b_2 := g_b hG (a := q) (i := 4) (lo := 0) (hi := 40) (by rcases hq with rfl | rfl <;> rfl) (by rcases hq with rfl | rfl <;> rfl)
    have z_3 := x_wc_b W9
    obtain ⟨Pn, Pna, Pnb, Pnc⟩ := id g8
    have z_4 := Pna.1
    have c_5 := CS_u g5 (a := (N.2.1 1 9).toInt) (by (first | (clear g9; omega) | omega))
    unfold x_C at c_5
    have z_6 := x_kx_q (x_val t nn (N.2.1 1 9).toInt)
    refine to_i (pc := 15) rw_58_15 rfl (to_c (pc := 17) rw_58_17 (x := (40 : Int32)) rfl rfl (b_cgt (pc := 19) rw_58_19 (A := x4.toInt) (B := 40) rfl rfl (fun h7 => ?_) (fun h7 => ?_)))
    · refine to_c (pc := 64) rw_58_64 (x := (1 : Int32)) rfl rfl (s_r1 (pc := 65) rw_58_65 (A := 1) rfl (by decide) ?_)
      have k_8 : (1 : Int32).toInt = 1 := rfl
      exact h (1 : Int32) N hG F0 (by decide) (by decide) g5 (by (first | (clear g9; omega) | omega)) (fun _ => ⟨Pn, Pna, (by (first | (clear g9; omega) | omega)), Pnc.trans (g_v rfl rfl (show (N.2.1 q 4).toInt = (N.2.1 q 4).toInt by (first | (clear g9; omega) | omega)) rfl (show (N.2.1 1 9).toInt = (N.2.1 1 9).toInt by (first | (clear g9; omega) | omega)))⟩) (fun z => by exfalso; omega) (fun _ => by (first | (clear g9; omega) | omega))
    · refine to_an (pc := 22) rw_58_22 rfl (to_c (pc := 23) rw_58_23 (x := (522190848 : Int32)) rfl rfl (s_v (pc := 25) rw_58_25 (by (first | (clear g9; omega) | omega)) (ls0 := [.ref 1, .int (522190848 : Int32)]) rfl (Nat.le_of_ble_eq_true rfl) (Nat.le_of_ble_eq_true rfl) rfl (to_rc rfl rfl rfl (g_o hG rfl)) rfl ?_))
      have k_9 : (522190848 : Int32).toInt = 522190848 := rfl
      refine E_86 hX (by (first | (clear g9; omega) | omega)) hG g5 (by (first | (clear g9; omega) | omega)) (x := (522190848 : Int32)) (t := t) (nn := nn) (a := (N.2.1 1 9).toInt) (fun r10 M17 hG12 F11 p_13 p_14 p_15 p_16 => ?_)
      have F18 := FR.c F0 F11 (fun a i z => show a = 1 ∧ 5 ≤ i ∨ 3 ≤ a ∧ a ≤ 5 ∨ q ≤ a ∧ a ≤ q + 4 by have z : a < 0 := z; omega)
      rcases (show r10.toInt = 0 ∨ r10.toInt = 1 by (first | (clear g9 p_15 p_16; omega) | omega)) with h19 | h19
      · skip
        have p_20 := p_16 (by (first | (clear g9 p_15 p_16; omega) | omega))
        clear p_15 p_16
        refine b_ieq_t (pc := 28) rw_58_28 (A := r10.toInt) rfl (by (first | (clear g9 p_15 p_16; omega) | omega)) (to_c (pc := 64) rw_58_64 (x := (1 : Int32)) rfl rfl (s_r1 (pc := 65) rw_58_65 (A := 1) rfl (by decide) ?_))
        have k_21 : (1 : Int32).toInt = 1 := rfl
        have j_22 := (CS_f (tg_28 F11) g5)
        have c_23 : M17.2.1 q 4 = (N.2.1 q 4) := (F_n F11 (show ¬ (q < 0) by (first | (clear g9 p_15 p_16; omega) | omega)) rfl)
        have t_24 : (M17.2.1 q 4).toInt = (N.2.1 q 4).toInt := congrArg Int32.toInt c_23
        have c_25 : M17.2.1 1 9 = (N.2.1 1 9) := (F_n F11 (show ¬ (1 < 0) by decide) rfl)
        have t_26 : (M17.2.1 1 9).toInt = (N.2.1 1 9).toInt := congrArg Int32.toInt c_25
        have z_27 := LQc_f (fun a i z => (F_n F11 (show ¬ (a < 0) by (first | (clear g9 p_15 p_16; omega) | omega)) rfl)) Pna
        exact h (1 : Int32) M17 hG12 F18 (by decide) (by decide) j_22 (by (first | (clear g9 p_15 p_16; omega) | omega)) (fun _ => ⟨Pn, z_27, (by (first | (clear g9 p_15 p_16; omega) | omega)), Pnc.trans (g_v rfl rfl (show (N.2.1 q 4).toInt = (M17.2.1 q 4).toInt by (first | (clear g9 p_15 p_16; omega) | omega)) rfl (show (N.2.1 1 9).toInt = (M17.2.1 1 9).toInt by (first | (clear g9 p_15 p_16; omega) | omega)))⟩) (fun z => by exfalso; omega) (fun _ => by rw [show (M17.2.1 1 9).toInt = (N.2.1 1 9).toInt by (first | (clear g9 p_15 p_16; omega) | omega)]; (first | (clear g9 p_15 p_16; omega) | omega))
      · skip
        have p_28 := p_15 (by (first | (clear g9 p_15 p_16; omega) | omega))
        clear p_15 p_16
        refine b_ieq_f (pc := 28) rw_58_28 (A := r10.toInt) rfl (by (first | (clear g9 p_15 p_16; omega) | omega)) (to_an (pc := 31) rw_58_31 rfl (to_an (pc := 32) rw_58_32 rfl (s_v (pc := 33) rw_58_33 (by (first | (clear g9 p_15 p_16; omega) | omega)) (ls0 := [.ref q, .ref 1]) rfl (Nat.le_of_ble_eq_true rfl) (Nat.le_of_ble_eq_true rfl) rfl (to_rc rfl rfl rfl (g_o hG12 (by rcases hq with rfl | rfl <;> rfl))) rfl ?_)))
        have c_29 : M17.2.1 q 4 = (N.2.1 q 4) := (F_n F11 (show ¬ (q < 0) by (first | (clear g9 p_15 p_16; omega) | omega)) rfl)
        have t_30 : (M17.2.1 q 4).toInt = (N.2.1 q 4).toInt := congrArg Int32.toInt c_29
        have j_31 := (CS_f (tg_28 F11) g5)
        have c_32 : M17.2.1 1 9 = (N.2.1 1 9) := (F_n F11 (show ¬ (1 < 0) by decide) rfl)
        have t_33 : (M17.2.1 1 9).toInt = (N.2.1 1 9).toInt := congrArg Int32.toInt c_32
        refine E_63 hX (by (first | (clear g9 p_15 p_16; omega) | omega)) hG12 hq j_31 (by (first | (clear g9 p_15 p_16; omega) | omega)) (q := q) (t := t) (nn := nn) (a := (N.2.1 1 9).toInt) (fun r34 M42 hG36 F35 p_37 p_38 p_39 p_40 p_41 => ?_)
        have F43 := FR.c F18 F35 (fun a i z => show a = 1 ∧ 5 ≤ i ∨ 3 ≤ a ∧ a ≤ 5 ∨ q ≤ a ∧ a ≤ q + 4 by have z : a = 1 ∧ 6 ≤ i ∧ i ≤ 11 ∨ a = q ∧ i = 4 := z; omega)
        have b_44 := g_b hG36 (a := q) (i := 4) (lo := 0) (hi := 40) (by rcases hq with rfl | rfl <;> rfl) (by rcases hq with rfl | rfl <;> rfl)
        rcases (show r34.toInt = 0 ∨ r34.toInt = 1 by (first | (clear g9 p_15 p_16 p_40 p_41; omega) | omega)) with h45 | h45
        · skip
          have p_46 := p_41 (by (first | (clear g9 p_15 p_16 p_40 p_41; omega) | omega))
          clear p_40 p_41
          have z_47 := Pnc.trans (g_aox (by (first | (clear g9 p_15 p_16 p_40 p_41; omega) | omega)) (by (first | (clear g9 p_15 p_16 p_40 p_41; omega) | omega)) (by (first | (clear g9 p_15 p_16 p_40 p_41; omega) | omega)) (by (first | (clear g9 p_15 p_16 p_40 p_41; omega) | omega)) (by (first | (clear g9 p_15 p_16 p_40 p_41; omega) | omega)))
          refine b_ieq_t (pc := 36) rw_58_36 (A := r34.toInt) rfl (by (first | (clear g9 p_15 p_16 p_40 p_41; omega) | omega)) (to_c (pc := 49) rw_58_49 (x := (0 : Int32)) rfl rfl (s_r1 (pc := 50) rw_58_50 (A := 0) rfl (by decide) ?_))
          have k_48 : (0 : Int32).toInt = 0 := rfl
          exact h (0 : Int32) M42 hG36 F43 (by decide) (by decide) p_39 (by (first | (clear g9 p_15 p_16 p_40 p_41; omega) | omega)) (fun z => by exfalso; omega) (fun _ => ginl (by (first | (clear g9 p_15 p_16 p_40 p_41; omega) | omega)) (by (first | (clear g9 p_15 p_16 p_40 p_41; omega) | omega)) z_47) (fun z => by exfalso; omega)
        · skip
          have p_49 := p_40 (by (first | (clear g9 p_15 p_16 p_40 p_41; omega) | omega))
          clear p_40 p_41
          have z_50 : x_gg t nn sg 0 b (M.2.1 q 4).toInt W9 P9 a = x_gg t nn sg 0 b ((N.2.1 q 4).toInt + 1) (4 :: W9) Pn (x_ns t nn (N.2.1 1 9).toInt) := Pnc.trans ((g_or (by (first | (clear g9 p_15 p_16 p_40 p_41; omega) | omega)) (by (first | (clear g9 p_15 p_16 p_40 p_41; omega) | omega)) (by (first | (clear g9 p_15 p_16 p_40 p_41; omega) | omega)) (by (first | (clear g9 p_15 p_16 p_40 p_41; omega) | omega)) (by (first | (clear g9 p_15 p_16 p_40 p_41; omega) | omega))).trans (by rw [(q9 Pn).1]))
          have z_51 := x_wc_1 (w := 4) (W := W9) (by decide)
          have z_52 := x_wc_b (4 :: W9)
          refine b_ieq_f (pc := 36) rw_58_36 (A := r34.toInt) rfl (by (first | (clear g9 p_15 p_16 p_40 p_41; omega) | omega)) (to_an (pc := 39) rw_58_39 rfl (to_an (pc := 40) rw_58_40 rfl (to_an (pc := 41) rw_58_41 rfl (to_in (pc := 42) rw_58_42 rfl (s_v (pc := 43) rw_58_43 (by (first | (clear g9 p_15 p_16 p_40 p_41; omega) | omega)) (ls0 := [.ref q, .ref 1, .ref p, .int o, .null]) rfl (Nat.le_of_ble_eq_true rfl) (Nat.le_of_ble_eq_true rfl) rfl (to_rc rfl rfl rfl (g_o hG36 (by rcases hq with rfl | rfl <;> rfl))) rfl ?_)))))
          have j_53 := (PLs_f (fun a i z => F_n F35 (show ¬ (a = 1 ∧ 6 ≤ i ∧ i ≤ 11 ∨ a = q ∧ i = 4) by (first | (clear g9 p_15 p_16 p_40 p_41; omega) | omega)) rfl) (PLs_f (fun a i z => F_n F11 (show ¬ (a < 0) by (first | (clear g9 p_15 p_16 p_40 p_41; omega) | omega)) rfl) g6))
          have z_54 := LQc_f (fun a i z => (F_n F35 (show ¬ (a = 1 ∧ 6 ≤ i ∧ i ≤ 11 ∨ a = q ∧ i = 4) by (first | (clear g9 p_15 p_16 p_40 p_41; omega) | omega)) (F_n F11 (show ¬ (a < 0) by (first | (clear g9 p_15 p_16 p_40 p_41; omega) | omega)) rfl))) Pna
          refine E_59 hX (by (first | (clear g9 p_15 p_16 p_40 p_41; omega) | omega)) hG36 hq hp (by (first | (clear g9 p_15 p_16 p_40 p_41; omega) | omega)) (by (first | (clear g9 p_15 p_16 p_40 p_41; omega) | omega)) (by (first | (clear g9 p_15 p_16 p_40 p_41; omega) | omega)) p_39 (by (first | (clear g9 p_15 p_16 p_40 p_41; omega) | omega)) j_53 z_54 (by (first | (clear g9 p_15 p_16 p_40 p_41; omega) | omega)) (fun P => bd_4) hr (q := q) (p := p) (o := o) (t := t) (nn := nn) (a := (M42.2.1 1 9).toInt) (sg := sg) (b := b) (W9 := (4 :: W9)) (P9 := Pn) (fun r55 M65 hG57 F56 p_58 p_59 p_60 p_61 p_62 p_63 p_64 => ?_)
          have F66 := FR.c F43 F56 (fun a i z => show a = 1 ∧ 5 ≤ i ∨ 3 ≤ a ∧ a ≤ 5 ∨ q ≤ a ∧ a ≤ q + 4 by have z : a = 1 ∧ 5 ≤ i ∨ 3 ≤ a ∧ a ≤ 5 ∨ q ≤ a ∧ a ≤ q + 4 := z; omega)
          have b_67 := g_b hG57 (a := q) (i := 4) (lo := 0) (hi := 40) (by rcases hq with rfl | rfl <;> rfl) (by rcases hq with rfl | rfl <;> rfl)
          rcases (show r55.toInt = 0 ∨ r55.toInt = 1 by (first | (clear g9 p_15 p_16 p_40 p_41 p_61 p_62 p_63 p_64; omega) | omega)) with h68 | h68
          · skip
            have p_69 := p_63 (by (first | (clear g9 p_15 p_16 p_40 p_41 p_61 p_62 p_63 p_64; omega) | omega))
            clear p_61 p_62 p_63 p_64
            have z_70 := z_50.trans ((g_v rfl rfl (by (first | (clear g9 p_15 p_16 p_40 p_41 p_61 p_62 p_63 p_64; omega) | omega)) rfl (by (first | (clear g9 p_15 p_16 p_40 p_41 p_61 p_62 p_63 p_64; omega) | omega))).trans p_69)
            refine b_ine_f (pc := 46) rw_58_46 (A := r55.toInt) rfl (by (first | (clear g9 p_15 p_16 p_40 p_41 p_61 p_62 p_63 p_64; omega) | omega)) (to_c (pc := 49) rw_58_49 (x := (0 : Int32)) rfl rfl (s_r1 (pc := 50) rw_58_50 (A := 0) rfl (by decide) ?_))
            have k_71 : (0 : Int32).toInt = 0 := rfl
            exact h (0 : Int32) M65 hG57 F66 (by decide) (by decide) p_60 (by (first | (clear g9 p_15 p_16 p_40 p_41 p_61 p_62 p_63 p_64; omega) | omega)) (fun z => by exfalso; omega) (fun _ => ginl (by (first | (clear g9 p_15 p_16 p_40 p_41 p_61 p_62 p_63 p_64; omega) | omega)) (by (first | (clear g9 p_15 p_16 p_40 p_41 p_61 p_62 p_63 p_64; omega) | omega)) z_70) (fun z => by exfalso; omega)
          · skip
            have p_72 := p_61 (by (first | (clear g9 p_15 p_16 p_40 p_41 p_61 p_62 p_63 p_64; omega) | omega))
            have p_73 := p_62 (by (first | (clear g9 p_15 p_16 p_40 p_41 p_61 p_62 p_63 p_64; omega) | omega))
            have p_74 := p_64 (by (first | (clear g9 p_15 p_16 p_40 p_41 p_61 p_62 p_63 p_64; omega) | omega))
            clear p_61 p_62 p_63 p_64
            obtain ⟨P75, P75a, P75b, P75c⟩ := p_73
            have z_76 := P75a.1
            have z_77 := z_50.trans ((g_v rfl rfl (by (first | (clear g9 p_15 p_16 p_40 p_41 p_61 p_62 p_63 p_64; omega) | omega)) rfl (by (first | (clear g9 p_15 p_16 p_40 p_41 p_61 p_62 p_63 p_64; omega) | omega))).trans P75c)
            have z_78 := p_74
            refine b_ine_t (pc := 46) rw_58_46 (A := r55.toInt) rfl (by (first | (clear g9 p_15 p_16 p_40 p_41 p_61 p_62 p_63 p_64; omega) | omega)) (to_an (pc := 51) rw_58_51 rfl (to_c (pc := 52) rw_58_52 (x := (4 : Int32)) rfl rfl (to_c (pc := 53) rw_58_53 (x := (0 : Int32)) rfl rfl (to_c (pc := 54) rw_58_54 (x := (0 : Int32)) rfl rfl (s_v (pc := 55) rw_58_55 (by (first | (clear g9 p_15 p_16 p_40 p_41 p_61 p_62 p_63 p_64; omega) | omega)) (ls0 := [.ref q, .int (4 : Int32), .int (0 : Int32), .int (0 : Int32)]) rfl (Nat.le_of_ble_eq_true rfl) (Nat.le_of_ble_eq_true rfl) rfl (to_rc rfl rfl rfl (g_o hG57 (by rcases hq with rfl | rfl <;> rfl))) rfl ?_)))))
            have k_79 : (4 : Int32).toInt = 4 := rfl
            have k_80 : (0 : Int32).toInt = 0 := rfl
            refine E_64 hX (by (first | (clear g9 p_15 p_16 p_40 p_41 p_61 p_62 p_63 p_64; omega) | omega)) hG57 hq (by (first | (clear g9 p_15 p_16 p_40 p_41 p_61 p_62 p_63 p_64; omega) | omega)) (by (first | (clear g9 p_15 p_16 p_40 p_41 p_61 p_62 p_63 p_64; omega) | omega)) (by (first | (clear g9 p_15 p_16 p_40 p_41 p_61 p_62 p_63 p_64; omega) | omega)) (by (first | (clear g9 p_15 p_16 p_40 p_41 p_61 p_62 p_63 p_64; omega) | omega)) P75a (by (first | (clear g9 p_15 p_16 p_40 p_41 p_61 p_62 p_63 p_64; omega) | omega)) (q := q) (k := (4 : Int32)) (f := (0 : Int32)) (s := (0 : Int32)) (P9 := P75) (fun M84 hG82 F81 p_83 => ?_)
            have F85 := FR.c F66 F81 (fun a i z => show a = 1 ∧ 5 ≤ i ∨ 3 ≤ a ∧ a ≤ 5 ∨ q ≤ a ∧ a ≤ q + 4 by have z : a = q ∧ i = 5 ∨ q + 1 ≤ a ∧ a ≤ q + 3 := z; omega)
            have z_86 := LQc_v (k2 := 4) (f2 := 0) (s2 := 0) rfl rfl rfl p_83
            have z_87 := x_kn1_2 (P := P75) (k := 4) (a := 0) (b := 0)
            have c_88 : M84.2.1 1 7 = (M65.2.1 1 7) := (F_n F81 (show ¬ (1 = q ∧ 7 = 5 ∨ q + 1 ≤ 1 ∧ 1 ≤ q + 3) by (first | (clear g9 p_15 p_16 p_40 p_41 p_61 p_62 p_63 p_64; omega) | omega)) rfl)
            have t_89 : (M84.2.1 1 7).toInt = (M65.2.1 1 7).toInt := congrArg Int32.toInt c_88
            have c_90 : M84.2.1 1 8 = (M65.2.1 1 8) := (F_n F81 (show ¬ (1 = q ∧ 8 = 5 ∨ q + 1 ≤ 1 ∧ 1 ≤ q + 3) by (first | (clear g9 p_15 p_16 p_40 p_41 p_61 p_62 p_63 p_64; omega) | omega)) rfl)
            have t_91 : (M84.2.1 1 8).toInt = (M65.2.1 1 8).toInt := congrArg Int32.toInt c_90
            have c_92 : M84.2.1 1 9 = (M65.2.1 1 9) := (F_n F81 (show ¬ (1 = q ∧ 9 = 5 ∨ q + 1 ≤ 1 ∧ 1 ≤ q + 3) by (first | (clear g9 p_15 p_16 p_40 p_41 p_61 p_62 p_63 p_64; omega) | omega)) rfl)
            have t_93 : (M84.2.1 1 9).toInt = (M65.2.1 1 9).toInt := congrArg Int32.toInt c_92
            have j_94 := (CS_f (fun a i z => F_n F81 (show ¬ (a = q ∧ i = 5 ∨ q + 1 ≤ a ∧ a ≤ q + 3) by (first | (clear g9 p_15 p_16 p_40 p_41 p_61 p_62 p_63 p_64; omega) | omega)) rfl) p_60)
            have c_95 := CS_u j_94 (a := (M65.2.1 1 9).toInt) (by (first | (clear g9 p_15 p_16 p_40 p_41 p_61 p_62 p_63 p_64; omega) | omega))
            unfold x_C at c_95
            have z_96 := z_77.trans (g_b4 (by (first | (clear g9 p_15 p_16 p_40 p_41 p_61 p_62 p_63 p_64; omega) | omega)) (by (first | (clear g9 p_15 p_16 p_40 p_41 p_61 p_62 p_63 p_64; omega) | omega)) (by (first | (clear g9 p_15 p_16 p_40 p_41 p_61 p_62 p_63 p_64; omega) | omega)))
            refine s_inc (pc := 58) rw_58_58 (ls2 := fun v => [.ref q, .ref 1, .ref p, .int o, .int v]) rfl rfl (fun _ => rfl) (A := x4.toInt) (B := 1) rfl rfl (by (first | (clear g9 p_15 p_16 p_40 p_41 p_61 p_62 p_63 p_64; omega) | omega)) (fun v97 e98 => to_go (pc := 61) rw_58_61 ?_)
            have c_99 : M84.2.1 q 4 = (M65.2.1 q 4) := (F_n F81 (show ¬ (q = q ∧ 4 = 5 ∨ q + 1 ≤ q ∧ q ≤ q + 3) by (first | (clear g9 p_15 p_16 p_40 p_41 p_61 p_62 p_63 p_64; omega) | omega)) rfl)
            have t_100 : (M84.2.1 q 4).toInt = (M65.2.1 q 4).toInt := congrArg Int32.toInt c_99
            have j_101 := (PLs_f (fun a i z => F_n F81 (show ¬ (a = q ∧ i = 5 ∨ q + 1 ≤ a ∧ a ≤ q + 3) by (first | (clear g9 p_15 p_16 p_40 p_41 p_61 p_62 p_63 p_64; omega) | omega)) rfl) (PLs_f (fun a i z => F_n F56 (show ¬ (a = 1 ∧ 5 ≤ i ∨ 3 ≤ a ∧ a ≤ 5 ∨ q ≤ a ∧ a ≤ q + 4) by (first | (clear g9 p_15 p_16 p_40 p_41 p_61 p_62 p_63 p_64; omega) | omega)) rfl) j_53))
            exact ih M84 v97 hG82 F85 (by (first | (clear g9 p_15 p_16 p_40 p_41 p_61 p_62 p_63 p_64; omega) | omega)) (by (first | (clear g9 p_15 p_16 p_40 p_41 p_61 p_62 p_63 p_64; omega) | omega)) (by (first | (clear g9 p_15 p_16 p_40 p_41 p_61 p_62 p_63 p_64; omega) | omega)) (by (first | (clear g9 p_15 p_16 p_40 p_41 p_61 p_62 p_63 p_64; omega) | omega)) j_94 j_101 (by (first | (clear g9 p_15 p_16 p_40 p_41 p_61 p_62 p_63 p_64; omega) | omega)) ⟨(x_kn1 P75 4 0 0), z_86, (by (first | (clear g9 p_15 p_16 p_40 p_41 p_61 p_62 p_63 p_64; omega) | omega)), z_96.trans (g_v rfl rfl (show (M65.2.1 q 4).toInt = (M84.2.1 q 4).toInt by (first | (clear g9 p_15 p_16 p_40 p_41 p_61 p_62 p_63 p_64; omega) | omega)) rfl (show (M65.2.1 1 9).toInt = (M84.2.1 1 9).toInt by (first | (clear g9 p_15 p_16 p_40 p_41 p_61 p_62 p_63 p_64; omega) | omega)))⟩ (by rw [show (M84.2.1 1 9).toInt = (M65.2.1 1 9).toInt by (first | (clear g9 p_15 p_16 p_40 p_41 p_61 p_62 p_63 p_64; omega) | omega)]; (first | (clear g9 p_15 p_16 p_40 p_41 p_61 p_62 p_63 p_64; omega) | omega)) (by (first | (clear g9 p_15 p_16 p_40 p_41 p_61 p_62 p_63 p_64; omega) | omega))
set_option maxRecDepth 4000 in
set_option maxHeartbeats 0 in
theorem BE_58 {X : mm_X} {d : Nat} {M : mm_M} {Q : Option Value → mm_M → Prop} {q : Nat} {p : Nat} {o : Int32} {t : Nat → Int} {nn : Int} {a : Int} {sg : x_S} {b : Int} {W9 : List Int} {P9 : x_GP} (hX : g_X X) (hd : 5 + 4 * (8 - o.toInt) ≤ (d : Int)) (hG : g_G M) (hq : q = 67 ∨ q = 72) (hp : p = 49 ∨ p = 58) (q1 : 0 ≤ o.toInt) (q2 : o.toInt ≤ 8) (q3 : o.toInt = b) (q4 : CS M t nn) (q5 : (M.2.1 1 9).toInt = a) (q6 : PLs M p sg) (q7 : LQc M q P9) (q8 : (M.2.1 q 4).toInt = P9.2 + x_wc W9) (q9 : ∀ P : x_GP, x_bd 1 W9 P = (W9, P) ∧ x_bd 2 W9 P = (W9, P)) (hr : RE_58 (8 - o.toInt)) (h : ∀ (r : Int32) (M1 : mm_M), g_G M1 → FR (md_qq q) M M1 → (0 ≤ r.toInt) → (r.toInt ≤ 1) → CS M1 t nn → (r.toInt = 1 → (M.2.1 q 4).toInt < (M1.2.1 q 4).toInt) → ((r.toInt = 1 → ∃ P2 : x_GP, LQc M1 q P2 ∧ (M1.2.1 q 4).toInt = P2.2 + x_wc W9 ∧ x_gg t nn sg 0 b (M.2.1 q 4).toInt W9 P9 a = x_gg t nn sg 1 b (M1.2.1 q 4).toInt W9 P2 (M1.2.1 1 9).toInt)) → ((r.toInt = 0 → x_gg t nn sg 0 b (M.2.1 q 4).toInt W9 P9 a = Sum.inl ((M1.2.1 1 10).toInt, (M1.2.1 1 11).toInt))) → ((r.toInt = 1 → ¬ (x_kind t nn (M1.2.1 1 9).toInt = 1 ∧ x_kx (x_val t nn (M1.2.1 1 9).toInt) = 12) ∧ ¬ (x_kind t nn (M1.2.1 1 9).toInt = 1 ∧ x_kx (x_val t nn (M1.2.1 1 9).toInt) = 13))) → Q (some (.int r)) M1) : mm_T X d 58 0 [.ref q, .ref 1, .ref p, .int o, .null] [] M Q := by
  have F0 : FR (md_qq q) M M := FR.rf
  have b_102 := g_b hG (a := q) (i := 4) (lo := 0) (hi := 40) (by rcases hq with rfl | rfl <;> rfl) (by rcases hq with rfl | rfl <;> rfl)
  have z_103 := x_wc_b W9
  refine to_an (pc := 0) rw_58_0 rfl (to_an (pc := 1) rw_58_1 rfl (to_an (pc := 2) rw_58_2 rfl (to_in (pc := 3) rw_58_3 rfl (s_v (pc := 4) rw_58_4 (by omega) (ls0 := [.ref q, .ref 1, .ref p, .int o, .null]) rfl (Nat.le_of_ble_eq_true rfl) (Nat.le_of_ble_eq_true rfl) rfl (to_rc rfl rfl rfl (g_o hG (by rcases hq with rfl | rfl <;> rfl))) rfl (E_59 hX (by omega) hG hq hp (by omega) (by omega) (by omega) q4 (by omega) q6 q7 (by omega) (fun P => (q9 P).2) hr (q := q) (p := p) (o := o) (t := t) (nn := nn) (a := a) (sg := sg) (b := b) (W9 := W9) (P9 := P9) (fun r104 M114 hG106 F105 p_107 p_108 p_109 p_110 p_111 p_112 p_113 => ?_))))))
  have F115 := FR.c F0 F105 (fun a i z => show a = 1 ∧ 5 ≤ i ∨ 3 ≤ a ∧ a ≤ 5 ∨ q ≤ a ∧ a ≤ q + 4 by have z : a = 1 ∧ 5 ≤ i ∨ 3 ≤ a ∧ a ≤ 5 ∨ q ≤ a ∧ a ≤ q + 4 := z; omega)
  have b_116 := g_b hG106 (a := q) (i := 4) (lo := 0) (hi := 40) (by rcases hq with rfl | rfl <;> rfl) (by rcases hq with rfl | rfl <;> rfl)
  rcases (show r104.toInt = 0 ∨ r104.toInt = 1 by omega) with h117 | h117
  · skip
    have p_118 := p_112 (by omega)
    clear p_110 p_111 p_112 p_113
    refine b_ine_f (pc := 7) rw_58_7 (A := r104.toInt) rfl (by omega) (to_c (pc := 10) rw_58_10 (x := (0 : Int32)) rfl rfl (s_r1 (pc := 11) rw_58_11 (A := 0) rfl (by decide) ?_))
    have k_119 : (0 : Int32).toInt = 0 := rfl
    exact h (0 : Int32) M114 hG106 F115 (by decide) (by decide) p_109 (by omega) (fun z => by exfalso; omega) (fun _ => ginl (by omega) (by omega) p_118) (fun z => by exfalso; omega)
  · skip
    have p_120 := p_110 (by omega)
    have p_121 := p_111 (by omega)
    have p_122 := p_113 (by omega)
    clear p_110 p_111 p_112 p_113
    obtain ⟨P123, P123a, P123b, P123c⟩ := p_121
    have z_124 := P123a.1
    have z_125 := p_122
    refine b_ine_t (pc := 7) rw_58_7 (A := r104.toInt) rfl (by omega) (to_c (pc := 12) rw_58_12 (x := (0 : Int32)) rfl rfl (to_is (pc := 13) rw_58_13 (ls2 := [.ref q, .ref 1, .ref p, .int o, .int (0 : Int32)]) rfl rfl ?_))
    have k_126 : (0 : Int32).toInt = 0 := rfl
    have j_127 := (PLs_f (fun a i z => F_n F105 (show ¬ (a = 1 ∧ 5 ≤ i ∨ 3 ≤ a ∧ a ≤ 5 ∨ q ≤ a ∧ a ≤ q + 4) by omega) rfl) q6)
    exact (U_58_0 (q := q) (p := p) (o := o) (t := t) (nn := nn) (a := a) (sg := sg) (b := b) (W9 := W9) (P9 := P9) hX hd hq hp q1 q2 q3 q4 q5 q6 q7 q8 q9 hr h ((41 - (0 : Int32).toInt).toNat + 1)) M114 (0 : Int32) hG106 F115 (by omega) (by omega) (by omega) (by omega) p_109 j_127 (by omega) ⟨P123, P123a, (by omega), P123c.trans (g_v rfl rfl (show (M114.2.1 q 4).toInt = (M114.2.1 q 4).toInt by omega) rfl (show (M114.2.1 1 9).toInt = (M114.2.1 1 9).toInt by omega))⟩ (by omega) (by omega)
theorem RE_58_all : ∀ nn : Nat, RE_58 (nn : Int) := by
  intro nn
  induction nn with
  | zero =>
    intro X d M Q q p o t nn a sg b W9 P9 hX hd hG hq hp q1 q2 q3 q4 q5 q6 q7 q8 q9 hm h
    exfalso; omega
  | succ nn ih =>
    intro X d M Q q p o t nn a sg b W9 P9 hX hd hG hq hp q1 q2 q3 q4 q5 q6 q7 q8 q9 hm h
    exact BE_58 hX hd hG hq hp q1 q2 q3 q4 q5 q6 q7 q8 q9 (fun X2 d2 M2 Q2 q2 p2 o2 t2 nn2 a2 sg2 b2 W92 P92 e71 e72 e73 hq2 hp2 q12 q22 q32 q42 q52 q62 q72 q82 q92 hm2 h2 => ih X2 d2 M2 Q2 q2 p2 o2 t2 nn2 a2 sg2 b2 W92 P92 e71 e72 e73 hq2 hp2 q12 q22 q32 q42 q52 q62 q72 q82 q92 (by omega) h2) h
theorem E_58 {X : mm_X} {d : Nat} {M : mm_M} {Q : Option Value → mm_M → Prop} {q : Nat} {p : Nat} {o : Int32} {t : Nat → Int} {nn : Int} {a : Int} {sg : x_S} {b : Int} {W9 : List Int} {P9 : x_GP} (hX : g_X X) (hd : 5 + 4 * (8 - o.toInt) ≤ (d : Int)) (hG : g_G M) (hq : q = 67 ∨ q = 72) (hp : p = 49 ∨ p = 58) (q1 : 0 ≤ o.toInt) (q2 : o.toInt ≤ 8) (q3 : o.toInt = b) (q4 : CS M t nn) (q5 : (M.2.1 1 9).toInt = a) (q6 : PLs M p sg) (q7 : LQc M q P9) (q8 : (M.2.1 q 4).toInt = P9.2 + x_wc W9) (q9 : ∀ P : x_GP, x_bd 1 W9 P = (W9, P) ∧ x_bd 2 W9 P = (W9, P)) (h : ∀ (r : Int32) (M1 : mm_M), g_G M1 → FR (md_qq q) M M1 → (0 ≤ r.toInt) → (r.toInt ≤ 1) → CS M1 t nn → (r.toInt = 1 → (M.2.1 q 4).toInt < (M1.2.1 q 4).toInt) → ((r.toInt = 1 → ∃ P2 : x_GP, LQc M1 q P2 ∧ (M1.2.1 q 4).toInt = P2.2 + x_wc W9 ∧ x_gg t nn sg 0 b (M.2.1 q 4).toInt W9 P9 a = x_gg t nn sg 1 b (M1.2.1 q 4).toInt W9 P2 (M1.2.1 1 9).toInt)) → ((r.toInt = 0 → x_gg t nn sg 0 b (M.2.1 q 4).toInt W9 P9 a = Sum.inl ((M1.2.1 1 10).toInt, (M1.2.1 1 11).toInt))) → ((r.toInt = 1 → ¬ (x_kind t nn (M1.2.1 1 9).toInt = 1 ∧ x_kx (x_val t nn (M1.2.1 1 9).toInt) = 12) ∧ ¬ (x_kind t nn (M1.2.1 1 9).toInt = 1 ∧ x_kx (x_val t nn (M1.2.1 1 9).toInt) = 13))) → Q (some (.int r)) M1) : mm_T X d 58 0 [.ref q, .ref 1, .ref p, .int o, .null] [] M Q := RE_58_all ((8 - o.toInt).toNat + 1) X d M Q q p o t nn a sg b W9 P9 hX hd hG hq hp q1 q2 q3 q4 q5 q6 q7 q8 q9 (by omega) h
