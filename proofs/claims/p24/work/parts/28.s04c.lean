set_option maxRecDepth 4000 in
set_option maxHeartbeats 0 in
theorem U_59_0 {X : mm_X} {d : Nat} {M : mm_M} {Q : Option Value → mm_M → Prop} {q : Nat} {p : Nat} {o : Int32} {t : Nat → Int} {nn : Int} {a : Int} {sg : x_S} {b : Int} {W9 : List Int} {P9 : x_GP} (hX : g_X X) (hd : 4 + 4 * (8 - o.toInt) ≤ (d : Int)) (hq : q = 67 ∨ q = 72) (hp : p = 49 ∨ p = 58) (q1 : 0 ≤ o.toInt) (q2 : o.toInt ≤ 8) (q3 : o.toInt = b) (q4 : CS M t nn) (q5 : (M.2.1 1 9).toInt = a) (q6 : PLs M p sg) (q7 : LQc M q P9) (q8 : (M.2.1 q 4).toInt = P9.2 + x_wc W9) (q9 : ∀ P : x_GP, x_bd 2 W9 P = (W9, P)) (hr : RE_58 (8 - o.toInt)) (h : ∀ (r : Int32) (M1 : mm_M), g_G M1 → FR (md_qq q) M M1 → (0 ≤ r.toInt) → (r.toInt ≤ 1) → CS M1 t nn → (r.toInt = 1 → (M.2.1 q 4).toInt < (M1.2.1 q 4).toInt) → ((r.toInt = 1 → ∃ P2 : x_GP, LQc M1 q P2 ∧ (M1.2.1 q 4).toInt = P2.2 + x_wc W9 ∧ x_gg t nn sg 0 b (M.2.1 q 4).toInt W9 P9 a = x_gg t nn sg 1 b (M1.2.1 q 4).toInt W9 P2 (M1.2.1 1 9).toInt)) → ((r.toInt = 0 → x_gg t nn sg 0 b (M.2.1 q 4).toInt W9 P9 a = Sum.inl ((M1.2.1 1 10).toInt, (M1.2.1 1 11).toInt))) → ((r.toInt = 1 → ¬ (x_kind t nn (M1.2.1 1 9).toInt = 1 ∧ x_kx (x_val t nn (M1.2.1 1 9).toInt) = 12))) → Q (some (.int r)) M1) : ∀ nn9 : Nat, (∀ (N : mm_M) (x4 : Int32), g_G N → FR (md_qq q) M N → (0 ≤ x4.toInt) → (x4.toInt ≤ 41) → (x4.toInt ≤ (N.2.1 q 4).toInt) → (o.toInt = o.toInt) → (CS N t nn) → (PLs N p sg) → ((M.2.1 q 4).toInt < (N.2.1 q 4).toInt) → (∃ P2 : x_GP, LQc N q P2 ∧ (N.2.1 q 4).toInt = P2.2 + x_wc W9 ∧ x_gg t nn sg 0 b (M.2.1 q 4).toInt W9 P9 a = x_gg t nn sg 1 b (N.2.1 q 4).toInt W9 P2 (N.2.1 1 9).toInt) → 41 - x4.toInt < (nn9 : Int) → mm_T X d 59 15 [.ref q, .ref 1, .ref p, .int o, .int x4] [] N Q) := by
  intro nn9
  induction nn9 with
  | zero =>
    intro N x4 hG F0 g1 g2 g3 g4 g5 g6 g7 g8 hm
    have b_1 := g_b hG (a := q) (i := 4) (lo := 0) (hi := 40) (by rcases hq with rfl | rfl <;> rfl) (by rcases hq with rfl | rfl <;> rfl)
    exfalso; omega
  | succ nn9 ih =>
    intro N x4 hG F0 g1 g2 g3 g4 g5 g6 g7 g8 hm
    have b_2 := g_b hG (a := q) (i := 4) (lo := 0) (hi := 40) (by rcases hq with rfl | rfl <;> rfl) (by rcases hq with rfl | rfl <;> rfl)
    have z_3 := x_wc_b W9
    obtain ⟨Pn, Pna, Pnb, Pnc⟩ := id g8
    have z_4 := Pna.1
    have c_5 := CS_u g5 (a := (N.2.1 1 9).toInt) (by omega)
    unfold x_C at c_5
    have z_6 := x_kx_q (x_val t nn (N.2.1 1 9).toInt)
    refine to_i (pc := 15) rw_59_15 rfl (to_c (pc := 17) rw_59_17 (x := (40 : Int32)) rfl rfl (b_cgt (pc := 19) rw_59_19 (A := x4.toInt) (B := 40) rfl rfl (fun h7 => ?_) (fun h7 => ?_)))
    · refine to_c (pc := 64) rw_59_64 (x := (1 : Int32)) rfl rfl (s_r1 (pc := 65) rw_59_65 (A := 1) rfl (by decide) ?_)
      have k_8 : (1 : Int32).toInt = 1 := rfl
      exact h (1 : Int32) N hG F0 (by decide) (by decide) g5 (by omega) (fun _ => ⟨Pn, Pna, (by omega), Pnc.trans (g_v rfl rfl (show (N.2.1 q 4).toInt = (N.2.1 q 4).toInt by omega) rfl (show (N.2.1 1 9).toInt = (N.2.1 1 9).toInt by omega))⟩) (fun z => by exfalso; omega) (fun _ => by omega)
    · refine to_an (pc := 22) rw_59_22 rfl (to_c (pc := 23) rw_59_23 (x := (48365568 : Int32)) rfl rfl (s_v (pc := 25) rw_59_25 (by omega) (ls0 := [.ref 1, .int (48365568 : Int32)]) rfl (Nat.le_of_ble_eq_true rfl) (Nat.le_of_ble_eq_true rfl) rfl (to_rc rfl rfl rfl (g_o hG rfl)) rfl ?_))
      have k_9 : (48365568 : Int32).toInt = 48365568 := rfl
      refine E_86 hX (by omega) hG g5 (by omega) (x := (48365568 : Int32)) (t := t) (nn := nn) (a := (N.2.1 1 9).toInt) (fun r10 M17 hG12 F11 p_13 p_14 p_15 p_16 => ?_)
      have F18 := FR.c F0 F11 (fun a i z => show a = 1 ∧ 5 ≤ i ∨ 3 ≤ a ∧ a ≤ 5 ∨ q ≤ a ∧ a ≤ q + 4 by have z : a < 0 := z; omega)
      rcases (show r10.toInt = 0 ∨ r10.toInt = 1 by (first | (clear p_15 p_16; omega) | omega)) with h19 | h19
      · skip
        have p_20 := p_16 (by (first | (clear p_15 p_16; omega) | omega))
        clear p_15 p_16
        refine b_ieq_t (pc := 28) rw_59_28 (A := r10.toInt) rfl (by (first | (clear p_15 p_16; omega) | omega)) (to_c (pc := 64) rw_59_64 (x := (1 : Int32)) rfl rfl (s_r1 (pc := 65) rw_59_65 (A := 1) rfl (by decide) ?_))
        have k_21 : (1 : Int32).toInt = 1 := rfl
        have j_22 := (CS_f (tg_28 F11) g5)
        have c_23 : M17.2.1 q 4 = (N.2.1 q 4) := (F_n F11 (show ¬ (q < 0) by (first | (clear p_15 p_16; omega) | omega)) rfl)
        have t_24 : (M17.2.1 q 4).toInt = (N.2.1 q 4).toInt := congrArg Int32.toInt c_23
        have c_25 : M17.2.1 1 9 = (N.2.1 1 9) := (F_n F11 (show ¬ (1 < 0) by decide) rfl)
        have t_26 : (M17.2.1 1 9).toInt = (N.2.1 1 9).toInt := congrArg Int32.toInt c_25
        have z_27 := LQc_f (fun a i z => (F_n F11 (show ¬ (a < 0) by (first | (clear p_15 p_16; omega) | omega)) rfl)) Pna
        exact h (1 : Int32) M17 hG12 F18 (by decide) (by decide) j_22 (by (first | (clear p_15 p_16; omega) | omega)) (fun _ => ⟨Pn, z_27, (by (first | (clear p_15 p_16; omega) | omega)), Pnc.trans (g_v rfl rfl (show (N.2.1 q 4).toInt = (M17.2.1 q 4).toInt by (first | (clear p_15 p_16; omega) | omega)) rfl (show (N.2.1 1 9).toInt = (M17.2.1 1 9).toInt by (first | (clear p_15 p_16; omega) | omega)))⟩) (fun z => by exfalso; omega) (fun _ => by rw [show (M17.2.1 1 9).toInt = (N.2.1 1 9).toInt by (first | (clear p_15 p_16; omega) | omega)]; (first | (clear p_15 p_16; omega) | omega))
      · skip
        have p_28 := p_15 (by (first | (clear p_15 p_16; omega) | omega))
        clear p_15 p_16
        refine b_ieq_f (pc := 28) rw_59_28 (A := r10.toInt) rfl (by (first | (clear p_15 p_16; omega) | omega)) (to_an (pc := 31) rw_59_31 rfl (to_an (pc := 32) rw_59_32 rfl (s_v (pc := 33) rw_59_33 (by (first | (clear p_15 p_16; omega) | omega)) (ls0 := [.ref q, .ref 1]) rfl (Nat.le_of_ble_eq_true rfl) (Nat.le_of_ble_eq_true rfl) rfl (to_rc rfl rfl rfl (g_o hG12 (by rcases hq with rfl | rfl <;> rfl))) rfl ?_)))
        have c_29 : M17.2.1 q 4 = (N.2.1 q 4) := (F_n F11 (show ¬ (q < 0) by (first | (clear p_15 p_16; omega) | omega)) rfl)
        have t_30 : (M17.2.1 q 4).toInt = (N.2.1 q 4).toInt := congrArg Int32.toInt c_29
        have j_31 := (CS_f (tg_28 F11) g5)
        have c_32 : M17.2.1 1 9 = (N.2.1 1 9) := (F_n F11 (show ¬ (1 < 0) by decide) rfl)
        have t_33 : (M17.2.1 1 9).toInt = (N.2.1 1 9).toInt := congrArg Int32.toInt c_32
        refine E_63 hX (by (first | (clear p_15 p_16; omega) | omega)) hG12 hq j_31 (by (first | (clear p_15 p_16; omega) | omega)) (q := q) (t := t) (nn := nn) (a := (N.2.1 1 9).toInt) (fun r34 M42 hG36 F35 p_37 p_38 p_39 p_40 p_41 => ?_)
        have F43 := FR.c F18 F35 (fun a i z => show a = 1 ∧ 5 ≤ i ∨ 3 ≤ a ∧ a ≤ 5 ∨ q ≤ a ∧ a ≤ q + 4 by have z : a = 1 ∧ 6 ≤ i ∧ i ≤ 11 ∨ a = q ∧ i = 4 := z; omega)
        have b_44 := g_b hG36 (a := q) (i := 4) (lo := 0) (hi := 40) (by rcases hq with rfl | rfl <;> rfl) (by rcases hq with rfl | rfl <;> rfl)
        rcases (show r34.toInt = 0 ∨ r34.toInt = 1 by (first | (clear p_15 p_16 p_40 p_41; omega) | omega)) with h45 | h45
        · skip
          have p_46 := p_41 (by (first | (clear p_15 p_16 p_40 p_41; omega) | omega))
          clear p_40 p_41
          have z_47 := Pnc.trans (g_aox (by (first | (clear p_15 p_16 p_40 p_41; omega) | omega)) (by (first | (clear p_15 p_16 p_40 p_41; omega) | omega)) (by (first | (clear p_15 p_16 p_40 p_41; omega) | omega)) (by (first | (clear p_15 p_16 p_40 p_41; omega) | omega)) (by (first | (clear p_15 p_16 p_40 p_41; omega) | omega)))
          refine b_ieq_t (pc := 36) rw_59_36 (A := r34.toInt) rfl (by (first | (clear p_15 p_16 p_40 p_41; omega) | omega)) (to_c (pc := 49) rw_59_49 (x := (0 : Int32)) rfl rfl (s_r1 (pc := 50) rw_59_50 (A := 0) rfl (by decide) ?_))
          have k_48 : (0 : Int32).toInt = 0 := rfl
          exact h (0 : Int32) M42 hG36 F43 (by decide) (by decide) p_39 (by (first | (clear p_15 p_16 p_40 p_41; omega) | omega)) (fun z => by exfalso; omega) (fun _ => ginl (by (first | (clear p_15 p_16 p_40 p_41; omega) | omega)) (by (first | (clear p_15 p_16 p_40 p_41; omega) | omega)) z_47) (fun z => by exfalso; omega)
        · skip
          have p_49 := p_40 (by (first | (clear p_15 p_16 p_40 p_41; omega) | omega))
          clear p_40 p_41
          have z_50 : x_gg t nn sg 0 b (M.2.1 q 4).toInt W9 P9 a = x_gg t nn sg 0 b ((N.2.1 q 4).toInt + 1) (3 :: W9) Pn (x_ns t nn (N.2.1 1 9).toInt) := Pnc.trans ((g_an (by (first | (clear p_15 p_16 p_40 p_41; omega) | omega)) (by (first | (clear p_15 p_16 p_40 p_41; omega) | omega)) (by (first | (clear p_15 p_16 p_40 p_41; omega) | omega)) (by (first | (clear p_15 p_16 p_40 p_41; omega) | omega)) (by (first | (clear p_15 p_16 p_40 p_41; omega) | omega))).trans (by rw [q9 Pn]))
          have z_51 := x_wc_1 (w := 3) (W := W9) (by decide)
          have z_52 := x_wc_b (3 :: W9)
          refine b_ieq_f (pc := 36) rw_59_36 (A := r34.toInt) rfl (by (first | (clear p_15 p_16 p_40 p_41; omega) | omega)) (to_an (pc := 39) rw_59_39 rfl (to_an (pc := 40) rw_59_40 rfl (to_an (pc := 41) rw_59_41 rfl (to_in (pc := 42) rw_59_42 rfl (s_v (pc := 43) rw_59_43 (by (first | (clear p_15 p_16 p_40 p_41; omega) | omega)) (ls0 := [.ref q, .ref 1, .ref p, .int o, .null, .null, .null]) rfl (Nat.le_of_ble_eq_true rfl) (Nat.le_of_ble_eq_true rfl) rfl (to_rc rfl rfl rfl (g_o hG36 (by rcases hq with rfl | rfl <;> rfl))) rfl ?_)))))
          have j_53 := (PLs_f (fun a i z => F_n F35 (show ¬ (a = 1 ∧ 6 ≤ i ∧ i ≤ 11 ∨ a = q ∧ i = 4) by (first | (clear p_15 p_16 p_40 p_41; omega) | omega)) rfl) (PLs_f (fun a i z => F_n F11 (show ¬ (a < 0) by (first | (clear p_15 p_16 p_40 p_41; omega) | omega)) rfl) g6))
          have z_54 := LQc_f (fun a i z => (F_n F35 (show ¬ (a = 1 ∧ 6 ≤ i ∧ i ≤ 11 ∨ a = q ∧ i = 4) by (first | (clear p_15 p_16 p_40 p_41; omega) | omega)) (F_n F11 (show ¬ (a < 0) by (first | (clear p_15 p_16 p_40 p_41; omega) | omega)) rfl))) Pna
          refine E_60 hX (by (first | (clear p_15 p_16 p_40 p_41; omega) | omega)) hG36 hq hp (by (first | (clear p_15 p_16 p_40 p_41; omega) | omega)) (by (first | (clear p_15 p_16 p_40 p_41; omega) | omega)) (by (first | (clear p_15 p_16 p_40 p_41; omega) | omega)) p_39 (by (first | (clear p_15 p_16 p_40 p_41; omega) | omega)) j_53 z_54 (by (first | (clear p_15 p_16 p_40 p_41; omega) | omega)) hr (q := q) (p := p) (o := o) (t := t) (nn := nn) (a := (M42.2.1 1 9).toInt) (sg := sg) (b := b) (W9 := (3 :: W9)) (P9 := Pn) (fun r55 M64 hG57 F56 p_58 p_59 p_60 p_61 p_62 p_63 => ?_)
          have F65 := FR.c F43 F56 (fun a i z => show a = 1 ∧ 5 ≤ i ∨ 3 ≤ a ∧ a ≤ 5 ∨ q ≤ a ∧ a ≤ q + 4 by have z : a = 1 ∧ 5 ≤ i ∨ 3 ≤ a ∧ a ≤ 5 ∨ q ≤ a ∧ a ≤ q + 4 := z; omega)
          have b_66 := g_b hG57 (a := q) (i := 4) (lo := 0) (hi := 40) (by rcases hq with rfl | rfl <;> rfl) (by rcases hq with rfl | rfl <;> rfl)
          rcases (show r55.toInt = 0 ∨ r55.toInt = 1 by (first | (clear p_15 p_16 p_40 p_41 p_61 p_62 p_63; omega) | omega)) with h67 | h67
          · skip
            have p_68 := p_63 (by (first | (clear p_15 p_16 p_40 p_41 p_61 p_62 p_63; omega) | omega))
            clear p_61 p_62 p_63
            have z_69 := z_50.trans ((g_v rfl rfl (by (first | (clear p_15 p_16 p_40 p_41 p_61 p_62 p_63; omega) | omega)) rfl (by (first | (clear p_15 p_16 p_40 p_41 p_61 p_62 p_63; omega) | omega))).trans p_68)
            refine b_ine_f (pc := 46) rw_59_46 (A := r55.toInt) rfl (by (first | (clear p_15 p_16 p_40 p_41 p_61 p_62 p_63; omega) | omega)) (to_c (pc := 49) rw_59_49 (x := (0 : Int32)) rfl rfl (s_r1 (pc := 50) rw_59_50 (A := 0) rfl (by decide) ?_))
            have k_70 : (0 : Int32).toInt = 0 := rfl
            exact h (0 : Int32) M64 hG57 F65 (by decide) (by decide) p_60 (by (first | (clear p_15 p_16 p_40 p_41 p_61 p_62 p_63; omega) | omega)) (fun z => by exfalso; omega) (fun _ => ginl (by (first | (clear p_15 p_16 p_40 p_41 p_61 p_62 p_63; omega) | omega)) (by (first | (clear p_15 p_16 p_40 p_41 p_61 p_62 p_63; omega) | omega)) z_69) (fun z => by exfalso; omega)
          · skip
            have p_71 := p_61 (by (first | (clear p_15 p_16 p_40 p_41 p_61 p_62 p_63; omega) | omega))
            have p_72 := p_62 (by (first | (clear p_15 p_16 p_40 p_41 p_61 p_62 p_63; omega) | omega))
            clear p_61 p_62 p_63
            obtain ⟨P73, P73a, P73b, P73c⟩ := p_72
            have z_74 := P73a.1
            have z_75 := z_50.trans ((g_v rfl rfl (by (first | (clear p_15 p_16 p_40 p_41 p_61 p_62 p_63; omega) | omega)) rfl (by (first | (clear p_15 p_16 p_40 p_41 p_61 p_62 p_63; omega) | omega))).trans P73c)
            refine b_ine_t (pc := 46) rw_59_46 (A := r55.toInt) rfl (by (first | (clear p_15 p_16 p_40 p_41 p_61 p_62 p_63; omega) | omega)) (to_an (pc := 51) rw_59_51 rfl (to_c (pc := 52) rw_59_52 (x := (3 : Int32)) rfl rfl (to_c (pc := 53) rw_59_53 (x := (0 : Int32)) rfl rfl (to_c (pc := 54) rw_59_54 (x := (0 : Int32)) rfl rfl (s_v (pc := 55) rw_59_55 (by (first | (clear p_15 p_16 p_40 p_41 p_61 p_62 p_63; omega) | omega)) (ls0 := [.ref q, .int (3 : Int32), .int (0 : Int32), .int (0 : Int32)]) rfl (Nat.le_of_ble_eq_true rfl) (Nat.le_of_ble_eq_true rfl) rfl (to_rc rfl rfl rfl (g_o hG57 (by rcases hq with rfl | rfl <;> rfl))) rfl ?_)))))
            have k_76 : (3 : Int32).toInt = 3 := rfl
            have k_77 : (0 : Int32).toInt = 0 := rfl
            refine E_64 hX (by (first | (clear p_15 p_16 p_40 p_41 p_61 p_62 p_63; omega) | omega)) hG57 hq (by (first | (clear p_15 p_16 p_40 p_41 p_61 p_62 p_63; omega) | omega)) (by (first | (clear p_15 p_16 p_40 p_41 p_61 p_62 p_63; omega) | omega)) (by (first | (clear p_15 p_16 p_40 p_41 p_61 p_62 p_63; omega) | omega)) (by (first | (clear p_15 p_16 p_40 p_41 p_61 p_62 p_63; omega) | omega)) P73a (by (first | (clear p_15 p_16 p_40 p_41 p_61 p_62 p_63; omega) | omega)) (q := q) (k := (3 : Int32)) (f := (0 : Int32)) (s := (0 : Int32)) (P9 := P73) (fun M81 hG79 F78 p_80 => ?_)
            have F82 := FR.c F65 F78 (fun a i z => show a = 1 ∧ 5 ≤ i ∨ 3 ≤ a ∧ a ≤ 5 ∨ q ≤ a ∧ a ≤ q + 4 by have z : a = q ∧ i = 5 ∨ q + 1 ≤ a ∧ a ≤ q + 3 := z; omega)
            have z_83 := LQc_v (k2 := 3) (f2 := 0) (s2 := 0) rfl rfl rfl p_80
            have z_84 := x_kn1_2 (P := P73) (k := 3) (a := 0) (b := 0)
            have c_85 : M81.2.1 1 7 = (M64.2.1 1 7) := (F_n F78 (show ¬ (1 = q ∧ 7 = 5 ∨ q + 1 ≤ 1 ∧ 1 ≤ q + 3) by (first | (clear p_15 p_16 p_40 p_41 p_61 p_62 p_63; omega) | omega)) rfl)
            have t_86 : (M81.2.1 1 7).toInt = (M64.2.1 1 7).toInt := congrArg Int32.toInt c_85
            have c_87 : M81.2.1 1 8 = (M64.2.1 1 8) := (F_n F78 (show ¬ (1 = q ∧ 8 = 5 ∨ q + 1 ≤ 1 ∧ 1 ≤ q + 3) by (first | (clear p_15 p_16 p_40 p_41 p_61 p_62 p_63; omega) | omega)) rfl)
            have t_88 : (M81.2.1 1 8).toInt = (M64.2.1 1 8).toInt := congrArg Int32.toInt c_87
            have c_89 : M81.2.1 1 9 = (M64.2.1 1 9) := (F_n F78 (show ¬ (1 = q ∧ 9 = 5 ∨ q + 1 ≤ 1 ∧ 1 ≤ q + 3) by (first | (clear p_15 p_16 p_40 p_41 p_61 p_62 p_63; omega) | omega)) rfl)
            have t_90 : (M81.2.1 1 9).toInt = (M64.2.1 1 9).toInt := congrArg Int32.toInt c_89
            have j_91 := (CS_f (fun a i z => F_n F78 (show ¬ (a = q ∧ i = 5 ∨ q + 1 ≤ a ∧ a ≤ q + 3) by (first | (clear p_15 p_16 p_40 p_41 p_61 p_62 p_63; omega) | omega)) rfl) p_60)
            have c_92 := CS_u j_91 (a := (M64.2.1 1 9).toInt) (by (first | (clear p_15 p_16 p_40 p_41 p_61 p_62 p_63; omega) | omega))
            unfold x_C at c_92
            have z_93 := z_75.trans (g_b2 (by (first | (clear p_15 p_16 p_40 p_41 p_61 p_62 p_63; omega) | omega)) (by (first | (clear p_15 p_16 p_40 p_41 p_61 p_62 p_63; omega) | omega)) (Or.inr rfl))
            refine s_inc (pc := 58) rw_59_58 (ls2 := fun v => [.ref q, .ref 1, .ref p, .int o, .int v]) rfl rfl (fun _ => rfl) (A := x4.toInt) (B := 1) rfl rfl (by (first | (clear p_15 p_16 p_40 p_41 p_61 p_62 p_63; omega) | omega)) (fun v94 e95 => to_go (pc := 61) rw_59_61 ?_)
            have c_96 : M81.2.1 q 4 = (M64.2.1 q 4) := (F_n F78 (show ¬ (q = q ∧ 4 = 5 ∨ q + 1 ≤ q ∧ q ≤ q + 3) by (first | (clear p_15 p_16 p_40 p_41 p_61 p_62 p_63; omega) | omega)) rfl)
            have t_97 : (M81.2.1 q 4).toInt = (M64.2.1 q 4).toInt := congrArg Int32.toInt c_96
            have j_98 := (PLs_f (fun a i z => F_n F78 (show ¬ (a = q ∧ i = 5 ∨ q + 1 ≤ a ∧ a ≤ q + 3) by (first | (clear p_15 p_16 p_40 p_41 p_61 p_62 p_63; omega) | omega)) rfl) (PLs_f (fun a i z => F_n F56 (show ¬ (a = 1 ∧ 5 ≤ i ∨ 3 ≤ a ∧ a ≤ 5 ∨ q ≤ a ∧ a ≤ q + 4) by (first | (clear p_15 p_16 p_40 p_41 p_61 p_62 p_63; omega) | omega)) rfl) j_53))
            exact ih M81 v94 hG79 F82 (by (first | (clear p_15 p_16 p_40 p_41 p_61 p_62 p_63; omega) | omega)) (by (first | (clear p_15 p_16 p_40 p_41 p_61 p_62 p_63; omega) | omega)) (by (first | (clear p_15 p_16 p_40 p_41 p_61 p_62 p_63; omega) | omega)) (by (first | (clear p_15 p_16 p_40 p_41 p_61 p_62 p_63; omega) | omega)) j_91 j_98 (by (first | (clear p_15 p_16 p_40 p_41 p_61 p_62 p_63; omega) | omega)) ⟨(x_kn1 P73 3 0 0), z_83, (by (first | (clear p_15 p_16 p_40 p_41 p_61 p_62 p_63; omega) | omega)), z_93.trans (g_v rfl rfl (show (M64.2.1 q 4).toInt = (M81.2.1 q 4).toInt by (first | (clear p_15 p_16 p_40 p_41 p_61 p_62 p_63; omega) | omega)) rfl (show (M64.2.1 1 9).toInt = (M81.2.1 1 9).toInt by (first | (clear p_15 p_16 p_40 p_41 p_61 p_62 p_63; omega) | omega)))⟩ (by (first | (clear p_15 p_16 p_40 p_41 p_61 p_62 p_63; omega) | omega))
set_option maxRecDepth 4000 in
set_option maxHeartbeats 0 in
theorem E_59 {X : mm_X} {d : Nat} {M : mm_M} {Q : Option Value → mm_M → Prop} {q : Nat} {p : Nat} {o : Int32} {t : Nat → Int} {nn : Int} {a : Int} {sg : x_S} {b : Int} {W9 : List Int} {P9 : x_GP} (hX : g_X X) (hd : 4 + 4 * (8 - o.toInt) ≤ (d : Int)) (hG : g_G M) (hq : q = 67 ∨ q = 72) (hp : p = 49 ∨ p = 58) (q1 : 0 ≤ o.toInt) (q2 : o.toInt ≤ 8) (q3 : o.toInt = b) (q4 : CS M t nn) (q5 : (M.2.1 1 9).toInt = a) (q6 : PLs M p sg) (q7 : LQc M q P9) (q8 : (M.2.1 q 4).toInt = P9.2 + x_wc W9) (q9 : ∀ P : x_GP, x_bd 2 W9 P = (W9, P)) (hr : RE_58 (8 - o.toInt)) (h : ∀ (r : Int32) (M1 : mm_M), g_G M1 → FR (md_qq q) M M1 → (0 ≤ r.toInt) → (r.toInt ≤ 1) → CS M1 t nn → (r.toInt = 1 → (M.2.1 q 4).toInt < (M1.2.1 q 4).toInt) → ((r.toInt = 1 → ∃ P2 : x_GP, LQc M1 q P2 ∧ (M1.2.1 q 4).toInt = P2.2 + x_wc W9 ∧ x_gg t nn sg 0 b (M.2.1 q 4).toInt W9 P9 a = x_gg t nn sg 1 b (M1.2.1 q 4).toInt W9 P2 (M1.2.1 1 9).toInt)) → ((r.toInt = 0 → x_gg t nn sg 0 b (M.2.1 q 4).toInt W9 P9 a = Sum.inl ((M1.2.1 1 10).toInt, (M1.2.1 1 11).toInt))) → ((r.toInt = 1 → ¬ (x_kind t nn (M1.2.1 1 9).toInt = 1 ∧ x_kx (x_val t nn (M1.2.1 1 9).toInt) = 12))) → Q (some (.int r)) M1) : mm_T X d 59 0 [.ref q, .ref 1, .ref p, .int o, .null] [] M Q := by
  have F0 : FR (md_qq q) M M := FR.rf
  have b_99 := g_b hG (a := q) (i := 4) (lo := 0) (hi := 40) (by rcases hq with rfl | rfl <;> rfl) (by rcases hq with rfl | rfl <;> rfl)
  have z_100 := x_wc_b W9
  refine to_an (pc := 0) rw_59_0 rfl (to_an (pc := 1) rw_59_1 rfl (to_an (pc := 2) rw_59_2 rfl (to_in (pc := 3) rw_59_3 rfl (s_v (pc := 4) rw_59_4 (by omega) (ls0 := [.ref q, .ref 1, .ref p, .int o, .null, .null, .null]) rfl (Nat.le_of_ble_eq_true rfl) (Nat.le_of_ble_eq_true rfl) rfl (to_rc rfl rfl rfl (g_o hG (by rcases hq with rfl | rfl <;> rfl))) rfl (E_60 hX (by omega) hG hq hp (by omega) (by omega) (by omega) q4 (by omega) q6 q7 (by omega) hr (q := q) (p := p) (o := o) (t := t) (nn := nn) (a := a) (sg := sg) (b := b) (W9 := W9) (P9 := P9) (fun r101 M110 hG103 F102 p_104 p_105 p_106 p_107 p_108 p_109 => ?_))))))
  have F111 := FR.c F0 F102 (fun a i z => show a = 1 ∧ 5 ≤ i ∨ 3 ≤ a ∧ a ≤ 5 ∨ q ≤ a ∧ a ≤ q + 4 by have z : a = 1 ∧ 5 ≤ i ∨ 3 ≤ a ∧ a ≤ 5 ∨ q ≤ a ∧ a ≤ q + 4 := z; omega)
  have b_112 := g_b hG103 (a := q) (i := 4) (lo := 0) (hi := 40) (by rcases hq with rfl | rfl <;> rfl) (by rcases hq with rfl | rfl <;> rfl)
  rcases (show r101.toInt = 0 ∨ r101.toInt = 1 by omega) with h113 | h113
  · skip
    have p_114 := p_109 (by omega)
    clear p_107 p_108 p_109
    refine b_ine_f (pc := 7) rw_59_7 (A := r101.toInt) rfl (by omega) (to_c (pc := 10) rw_59_10 (x := (0 : Int32)) rfl rfl (s_r1 (pc := 11) rw_59_11 (A := 0) rfl (by decide) ?_))
    have k_115 : (0 : Int32).toInt = 0 := rfl
    exact h (0 : Int32) M110 hG103 F111 (by decide) (by decide) p_106 (by omega) (fun z => by exfalso; omega) (fun _ => ginl (by omega) (by omega) p_114) (fun z => by exfalso; omega)
  · skip
    have p_116 := p_107 (by omega)
    have p_117 := p_108 (by omega)
    clear p_107 p_108 p_109
    obtain ⟨P118, P118a, P118b, P118c⟩ := p_117
    have z_119 := P118a.1
    refine b_ine_t (pc := 7) rw_59_7 (A := r101.toInt) rfl (by omega) (to_c (pc := 12) rw_59_12 (x := (0 : Int32)) rfl rfl (to_is (pc := 13) rw_59_13 (ls2 := [.ref q, .ref 1, .ref p, .int o, .int (0 : Int32)]) rfl rfl ?_))
    have k_120 : (0 : Int32).toInt = 0 := rfl
    have j_121 := (PLs_f (fun a i z => F_n F102 (show ¬ (a = 1 ∧ 5 ≤ i ∨ 3 ≤ a ∧ a ≤ 5 ∨ q ≤ a ∧ a ≤ q + 4) by omega) rfl) q6)
    exact (U_59_0 (q := q) (p := p) (o := o) (t := t) (nn := nn) (a := a) (sg := sg) (b := b) (W9 := W9) (P9 := P9) hX hd hq hp q1 q2 q3 q4 q5 q6 q7 q8 q9 hr h ((41 - (0 : Int32).toInt).toNat + 1)) M110 (0 : Int32) hG103 F111 (by omega) (by omega) (by omega) (by omega) p_106 j_121 (by omega) ⟨P118, P118a, (by omega), P118c.trans (g_v rfl rfl (show (M110.2.1 q 4).toInt = (M110.2.1 q 4).toInt by omega) rfl (show (M110.2.1 1 9).toInt = (M110.2.1 1 9).toInt by omega))⟩ (by omega)
