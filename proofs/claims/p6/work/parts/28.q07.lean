set_option maxRecDepth 4000 in
set_option maxHeartbeats 0 in
theorem U_42_0 {X : mm_X} {d : Nat} {M : mm_M} {Q : Option Value → mm_M → Prop} {p : Nat} {f : Int32} {t : Nat → Int} {nn : Int} {a : Int} {sg : x_S} {k : x_K} {nm : Int} (hX : g_X X) (hd : 2 ≤ d) (hp : p = 49 ∨ p = 58) (q1 : CS M t nn) (q2 : (M.2.1 1 9).toInt = a) (q3 : PLc M p sg) (q4 : CW M p sg) (q5 : 0 ≤ f.toInt) (q6 : f.toInt ≤ 7) (q7 : f.toInt < sg.2.1) (q8 : x_row sg 2 f.toInt = 3) (q9 : (M.2.1 p 3).toInt ≤ 11) (h : ∀ (r : Int32) (M1 : mm_M), g_G M1 → FR (md_c42e p) M M1 → (0 ≤ r.toInt) → (r.toInt ≤ 1) → CS M1 t nn → PLc M1 p sg → CW M1 p sg → ((r.toInt = 0 → x_rc t nn sg f.toInt nm k 6 0 0 a = (Sum.inl ((M1.2.1 1 10).toInt, (M1.2.1 1 11).toInt) : x_Res))) → ((r.toInt = 1 → x_rc t nn sg f.toInt nm k 6 0 0 a = k (M1.2.1 1 9).toInt (x_pushw sg nm f.toInt (M1.2.2.1 (p + 8) sg.2.2.1.toNat).toInt) ∨ x_rc t nn sg f.toInt nm k 6 0 0 a = Sum.inl (1, (M1.2.1 1 9).toInt) ∧ ¬ (x_kind t nn (M1.2.1 1 9).toInt = 4 ∧ x_val t nn (M1.2.1 1 9).toInt = 59))) → (r.toInt = 1 → (M1.2.1 1 10).toInt = (M.2.1 1 10).toInt ∧ (M1.2.1 1 11).toInt = (M.2.1 1 11).toInt) → Q (some (.int r)) M1) : ∀ nn9 : Nat, (∀ (N : mm_M) (y3 : Int64) (x5 : Int32) (u6 : Value) (u7 : Value) (u8 : Value), g_G N → FR (md_c42e p) M N → (0 ≤ x5.toInt) → (x5.toInt ≤ 4) → (x5.toInt ≤ x_row sg 5 f.toInt) → ((N.2.1 p 3).toInt ≤ 11) → (CS N t nn) → (PLc N p sg) → (CW N p sg) → (x_rc t nn sg f.toInt nm k (6 - x5.toInt).toNat x5.toInt y3 (N.2.1 1 9).toInt = x_rc t nn sg f.toInt nm k 6 0 0 a) → ((N.2.1 1 10).toInt = (M.2.1 1 10).toInt ∧ (N.2.1 1 11).toInt = (M.2.1 1 11).toInt) → 10 - x5.toInt < (nn9 : Int) → mm_T X d 42 5 [.ref p, .ref 1, .int f, .long y3, .null, .int x5, u6, u7, u8] [] N Q) := by
  intro nn9
  induction nn9 with
  | zero =>
    intro N y3 x5 u6 u7 u8 hG F0 g1 g2 g3 g4 g5 g6 g7 g8 g9 hm
    have b_1 := g_b hG (a := p) (i := 3) (lo := 0) (hi := 12) (by rcases hp with rfl | rfl <;> rfl) (by rcases hp with rfl | rfl <;> rfl)
    exfalso; omega
  | succ nn9 ih =>
    intro N y3 x5 u6 u7 u8 hG F0 g1 g2 g3 g4 g5 g6 g7 g8 g9 hm
    have b_2 := g_b hG (a := p) (i := 3) (lo := 0) (hi := 12) (by rcases hp with rfl | rfl <;> rfl) (by rcases hp with rfl | rfl <;> rfl)
    have z_3 := g6.2.1
    have z_4 := g6.2.2.1
    have z_5 := g6.2.2.2.1
    have z_6 := g6.1
    have z_7 := z_6.1
    have z_8 := z_6.2.1
    have z_9 := z_6.2.2.1
    have z_10 := z_6.2.2.2.1
    have z_11 := z_6.2.2.2.2.1
    have z_12 := z_6.2.2.2.2.2.1
    have b_13 := g_b hG (a := p) (i := 2) (lo := 0) (hi := 8) (by rcases hp with rfl | rfl <;> rfl) (by rcases hp with rfl | rfl <;> rfl)
    have z_14 := g6.1.2.2.2.2.2.2.2 f.toInt (by omega) (by omega)
    refine to_i (pc := 5) rw_42_5 rfl (b_ieq (pc := 7) rw_42_7 (A := x5.toInt) rfl (fun h15 => ?_) (fun h15 => ?_))
    · refine to_i (pc := 29) rw_42_29 rfl (to_an (pc := 31) rw_42_31 rfl (s_gR (pc := 32) rw_42_32 hG (by rcases hp with rfl | rfl <;> rfl) (v := (p + 5)) (by rcases hp with rfl | rfl <;> rfl) (to_in (pc := 35) rw_42_35 rfl (s_ial (pc := 36) rw_42_36 hG (by rcases hp with rfl | rfl <;> rfl) (n := 8) (by rcases hp with rfl | rfl <;> rfl) (by rcases hp with rfl | rfl <;> rfl) (A := f.toInt) rfl (by omega) (by omega) (lo := 0) (hi := 24) (by rcases hp with rfl | rfl <;> rfl) (by rcases hp with rfl | rfl <;> rfl) (fun v16 w_17 _ _ => ?_)))))
      have z_18 := PLc_r g6 5 (by decide) (by decide) (k := f.toInt) (by omega) (by omega) w_17
      refine b_cge (pc := 37) rw_42_37 (A := x5.toInt) (B := v16.toInt) rfl rfl (fun h19 => ?_) (fun h19 => ?_)
      · refine to_c (pc := 50) rw_42_50 (x := (-1 : Int32)) rfl rfl (to_is (pc := 51) rw_42_51 (ls2 := [.ref p, .ref 1, .int f, .long y3, .null, .int x5, .int (-1 : Int32), u7, u8]) rfl rfl (to_an (pc := 53) rw_42_53 rfl (to_c (pc := 54) rw_42_54 (x := (0 : Int32)) rfl rfl (to_i (pc := 55) rw_42_55 rfl (s_v (pc := 57) rw_42_57 (dp0 hd (by decide)) (ls0 := [.ref 1, .int (0 : Int32), .int (-1 : Int32)]) rfl (Nat.le_of_ble_eq_true rfl) (Nat.le_of_ble_eq_true rfl) rfl (to_rc rfl rfl rfl (g_o hG rfl)) rfl ?_)))))
        have k_20 : (0 : Int32).toInt = 0 := rfl
        have k_21 : (-1 : Int32).toInt = -1 := rfl
        refine E_88g hX (dp1 hd (by decide)) hG g5 (by omega) (l := (0 : Int32)) (m := (-1 : Int32)) (t := t) (nn := nn) (a := (N.2.1 1 9).toInt) (fun r22 M32 hG24 F23 p_25 p_26 p_27 p_28 p_29 p_30 p_31 => ?_)
        have F33 := FR.c F0 F23 (fun a i z => show a = 1 ∧ 6 ≤ i ∧ i ≤ 11 ∨ a = p + 8 by have z : a = 1 ∧ (i = 10 ∨ i = 11) := z; omega)
        rcases (show r22.toInt = 0 ∨ r22.toInt = 1 by omega) with h34 | h34
        · skip
          have p_35 := p_28 (by omega)
          have p_36 := p_29 (by omega)
          have p_37 := p_30 (by omega)
          clear p_27 p_28 p_29 p_30 p_31
          have z_38 := x_val_b (t := t) (nn := nn) (a := (N.2.1 1 9).toInt)
          refine b_ine_f (pc := 60) rw_42_60 (A := r22.toInt) rfl (by omega) (to_c (pc := 63) rw_42_63 (x := (0 : Int32)) rfl rfl (s_r1 (pc := 64) rw_42_64 (A := 0) rfl (by decide) ?_))
          have j_39 := (CS_f (tg_34 F23) g5)
          have j_40 := (PLc_f (fun a i z => F_n F23 (show ¬ (a = 1 ∧ (i = 10 ∨ i = 11)) by omega) rfl) (F_nl F23 (show ¬ (p = 1 ∧ (4 = 10 ∨ 4 = 11)) by omega) rfl) g6)
          have j_41 := (CW_f (fun k hk9 => F_nl F23 (show ¬ ((p + 8) = 1 ∧ (k = 10 ∨ k = 11)) by omega) rfl) g7)
          exact h (0 : Int32) M32 hG24 F33 (by decide) (by decide) j_39 j_40 j_41 (fun _ => (if g9 : x_kind t nn (N.2.1 1 9).toInt = 3 then pinl (by have z9 := p_37.1 g9; omega) (by omega) (g8.symm.trans (x_rc_2 (by omega) g9 (by omega))) else pinl (by have z9 := p_37.2 g9; omega) (by omega) (g8.symm.trans (x_rc_1 (by omega) g9 (by omega) (by omega))))) (fun z => absurd z (by decide)) (by omega)
        · skip
          have p_42 := p_27 (by omega)
          have p_43 := p_31 (by omega)
          clear p_27 p_28 p_29 p_30 p_31
          have c_44 : M32.2.1 1 8 = (N.2.1 1 8) := (F_n F23 (show ¬ (1 = 1 ∧ (8 = 10 ∨ 8 = 11)) by decide) rfl)
          have z_45 := x_val_b (t := t) (nn := nn) (a := (N.2.1 1 9).toInt) (by omega)
          refine b_ine_t (pc := 60) rw_42_60 (A := r22.toInt) rfl (by omega) (to_cl (pc := 65) rw_42_65 rfl (x := (1 : Int64)) rfl (to_an (pc := 66) rw_42_66 rfl (s_gR (pc := 67) rw_42_67 hG24 (by rcases hp with rfl | rfl <;> rfl) (v := (p + 3)) (by rcases hp with rfl | rfl <;> rfl) (to_in (pc := 70) rw_42_70 rfl (s_ial (pc := 71) rw_42_71 hG24 (by rcases hp with rfl | rfl <;> rfl) (n := 8) (by rcases hp with rfl | rfl <;> rfl) (by rcases hp with rfl | rfl <;> rfl) (A := f.toInt) rfl (by omega) (by omega) (lo := 0) (hi := 59) (by rcases hp with rfl | rfl <;> rfl) (by rcases hp with rfl | rfl <;> rfl) (fun v46 w_47 _ _ => ?_))))))
          have j_48 := (PLc_f (fun a i z => F_n F23 (show ¬ (a = 1 ∧ (i = 10 ∨ i = 11)) by omega) rfl) (F_nl F23 (show ¬ (p = 1 ∧ (4 = 10 ∨ 4 = 11)) by omega) rfl) g6)
          have z_49 := PLc_r j_48 3 (by decide) (by decide) (k := f.toInt) (by omega) (by omega) w_47
          refine to_an (pc := 72) rw_42_72 rfl (tt_gI (pc := 73) rw_42_73 (g_o hG24 rfl) (v := (N.2.1 1 8)) c_44 (s_add (pc := 76) rw_42_76 (A := v46.toInt) (B := (N.2.1 1 8).toInt) rfl rfl (by omega) (fun v50 e51 => to_2s (pc := 77) rw_42_77 (v := ((1 : Int64) <<< (v50.toInt64 &&& 63))) rfl (to_ls (pc := 78) rw_42_78 (ls2 := [.ref p, .ref 1, .int f, .long y3, .null, .int x5, .int (-1 : Int32), .long ((1 : Int64) <<< (v50.toInt64 &&& 63)), .null]) rfl rfl (to_ln (pc := 80) rw_42_80 rfl rfl rfl (to_l (pc := 81) rw_42_81 rfl rfl rfl (to_2l (pc := 83) rw_42_83 (v := (y3 &&& ((1 : Int64) <<< (v50.toInt64 &&& 63)))) rfl (to_cl (pc := 84) rw_42_84 rfl (x := (0 : Int64)) rfl (s_lcmpE (pc := 85) rw_42_85 (fun v52 e53 => ?_))))))))))
          have b_54 := x_eq_b (x := (y3 &&& ((1 : Int64) <<< (v50.toInt64 &&& 63)))) (y := (0 : Int64))
          have z_55 := x_hit_e (v := v50) (bits := y3) (h := (x_row sg 3 f.toInt + x_val t nn (N.2.1 1 9).toInt))
          refine b_ieq (pc := 86) rw_42_86 (A := v52.toInt) rfl (fun h56 => ?_) (fun h56 => ?_)
          · refine to_ln (pc := 95) rw_42_95 rfl rfl rfl (to_l (pc := 96) rw_42_96 rfl rfl rfl (to_2l (pc := 98) rw_42_98 (v := (y3 ||| ((1 : Int64) <<< (v50.toInt64 &&& 63)))) rfl (to_lsn (pc := 99) rw_42_99 (ls2 := [.ref p, .ref 1, .int f, .long (y3 ||| ((1 : Int64) <<< (v50.toInt64 &&& 63))), .null, .int x5, .int (-1 : Int32), .long ((1 : Int64) <<< (v50.toInt64 &&& 63)), .null]) rfl rfl (s_inc (pc := 100) rw_42_100 (ls2 := fun v => [.ref p, .ref 1, .int f, .long (y3 ||| ((1 : Int64) <<< (v50.toInt64 &&& 63))), .null, .int v, .int (-1 : Int32), .long ((1 : Int64) <<< (v50.toInt64 &&& 63)), .null]) rfl rfl (fun _ => rfl) (A := x5.toInt) (B := 1) rfl rfl (by omega) (fun v57 e58 => to_an (pc := 103) rw_42_103 rfl (s_v (pc := 104) rw_42_104 (dp0 hd (by decide)) (ls0 := [.ref 1]) rfl (Nat.le_of_ble_eq_true rfl) (Nat.le_of_ble_eq_true rfl) rfl (to_rc rfl rfl rfl (g_o hG24 rfl)) rfl ?_))))))
            have j_59 := (CS_f (tg_34 F23) g5)
            have c_60 : M32.2.1 1 9 = (N.2.1 1 9) := (F_n F23 (show ¬ (1 = 1 ∧ (9 = 10 ∨ 9 = 11)) by decide) rfl)
            have t_61 : (M32.2.1 1 9).toInt = (N.2.1 1 9).toInt := congrArg Int32.toInt c_60
            refine E_83 hX (dp1 hd (by decide)) hG24 j_59 (by omega) (t := t) (nn := nn) (a := (N.2.1 1 9).toInt) (fun M66 hG63 F62 p_64 p_65 => ?_)
            have F67 := FR.c F33 F62 (fun a i z => show a = 1 ∧ 6 ≤ i ∧ i ≤ 11 ∨ a = p + 8 by have z : a = 1 ∧ 6 ≤ i ∧ i ≤ 9 := z; omega)
            refine to_go (pc := 107) rw_42_107 ?_
            have c_68 : M66.2.1 p 3 = (N.2.1 p 3) := (F_n F62 (show ¬ (p = 1 ∧ 6 ≤ 3 ∧ 3 ≤ 9) by omega) (F_n F23 (show ¬ (p = 1 ∧ (3 = 10 ∨ 3 = 11)) by omega) rfl))
            have t_69 : (M66.2.1 p 3).toInt = (N.2.1 p 3).toInt := congrArg Int32.toInt c_68
            have j_70 := (PLc_f (fun a i z => F_n F62 (show ¬ (a = 1 ∧ 6 ≤ i ∧ i ≤ 9) by omega) rfl) (F_nl F62 (show ¬ (p = 1 ∧ 6 ≤ 4 ∧ 4 ≤ 9) by omega) rfl) j_48)
            have j_71 := (CW_f (fun k hk9 => F_nl F62 (show ¬ ((p + 8) = 1 ∧ 6 ≤ k ∧ k ≤ 9) by omega) rfl) (CW_f (fun k hk9 => F_nl F23 (show ¬ ((p + 8) = 1 ∧ (k = 10 ∨ k = 11)) by omega) rfl) g7))
            have c_72 : M66.2.1 1 10 = (M32.2.1 1 10) := (F_n F62 (show ¬ (1 = 1 ∧ 6 ≤ 10 ∧ 10 ≤ 9) by decide) rfl)
            have t_73 : (M66.2.1 1 10).toInt = (M32.2.1 1 10).toInt := congrArg Int32.toInt c_72
            have c_74 : M66.2.1 1 11 = (M32.2.1 1 11) := (F_n F62 (show ¬ (1 = 1 ∧ 6 ≤ 11 ∧ 11 ≤ 9) by decide) rfl)
            have t_75 : (M66.2.1 1 11).toInt = (M32.2.1 1 11).toInt := congrArg Int32.toInt c_74
            exact ih M66 (y3 ||| ((1 : Int64) <<< (v50.toInt64 &&& 63))) v57 (.int (-1 : Int32)) (.long ((1 : Int64) <<< (v50.toInt64 &&& 63))) (.null) hG63 F67 (by omega) (by omega) (by omega) (by omega) p_64 j_70 j_71 (x_rc_s (fu := (6 - x5.toInt).toNat) (told := x5.toInt) (bits := y3) (b := (N.2.1 1 9).toInt) (by omega) (by omega) (by omega) (by omega) (by omega) (congrArg (fun z => y3 ||| z) (x_bit_e (v := v50) (by omega))) g8) (by omega) (by omega)
          · refine to_an (pc := 89) rw_42_89 rfl (to_c (pc := 90) rw_42_90 (x := (3 : Int32)) rfl rfl (s_v (pc := 91) rw_42_91 (dp0 hd (by decide)) (ls0 := [.ref 1, .int (3 : Int32)]) rfl (Nat.le_of_ble_eq_true rfl) (Nat.le_of_ble_eq_true rfl) rfl (to_rc rfl rfl rfl (g_o hG24 rfl)) rfl (to_an (pc := 0) rw_84_0 rfl (to_in (pc := 1) rw_84_1 rfl (s_pI (pc := 2) rw_84_2 hG24 rfl (fun M77 W76 => ?_))))))
            have hG78 := g_wf hG24 W76 rfl rfl (by decide)
            have F79 := FR.w F33 W76 (show 1 = 1 ∧ 6 ≤ 10 ∧ 10 ≤ 11 ∨ 1 = p + 8 by omega)
            refine to_an (pc := 5) rw_84_5 rfl (to_an (pc := 6) rw_84_6 rfl ?_)
            have c_80 : M77.2.1 1 9 = (N.2.1 1 9) := (W_n W76 (by decide) (F_n F23 (show ¬ (1 = 1 ∧ (9 = 10 ∨ 9 = 11)) by decide) rfl))
            refine tt_gI (pc := 7) rw_84_7 (g_o hG78 rfl) (v := (N.2.1 1 9)) c_80 (s_pI (pc := 10) rw_84_10 hG78 rfl (fun M82 W81 => ?_))
            have hG83 := g_wf hG78 W81 rfl rfl (by decide)
            have F84 := FR.w F79 W81 (show 1 = 1 ∧ 6 ≤ 11 ∧ 11 ≤ 11 ∨ 1 = p + 8 by omega)
            refine to_c (pc := 13) rw_84_13 (x := (0 : Int32)) rfl rfl (s_r1 (pc := 14) rw_84_14 (A := 0) rfl (by decide) (s_r1 (pc := 94) rw_42_94 (A := 0) rfl (by decide) ?_))
            have j_85 := (CS_f (fun a i z => W_n W81 (tg_32 a i z) rfl) (CS_f (fun a i z => W_n W76 (tg_33 a i z) rfl) (CS_f (tg_34 F23) g5)))
            have j_86 := (PLc_f (fun a i z => W_n W81 (by /-r1,11-/ omega) rfl) (W_j W81 rfl) (PLc_f (fun a i z => W_n W76 (by /-r1,10-/ omega) rfl) (W_j W76 rfl) j_48))
            have j_87 := (CW_f (fun k hk9 => W_j W81 rfl) (CW_f (fun k hk9 => W_j W76 rfl) (CW_f (fun k hk9 => F_nl F23 (show ¬ ((p + 8) = 1 ∧ (k = 10 ∨ k = 11)) by omega) rfl) g7)))
            have c_88 : M82.2.1 1 10 = (3 : Int32) := (W_n W81 (by decide) (W_e W76))
            have k_89 : (3 : Int32).toInt = 3 := rfl
            have t_90 : (M82.2.1 1 10).toInt = (3 : Int32).toInt := congrArg Int32.toInt c_88
            have c_91 : M82.2.1 1 11 = (N.2.1 1 9) := (W_e W81)
            have t_92 : (M82.2.1 1 11).toInt = (N.2.1 1 9).toInt := congrArg Int32.toInt c_91
            exact h (0 : Int32) M82 hG83 F84 (by decide) (by decide) j_85 j_86 j_87 (fun _ => pinl (by omega) (by omega) (g8.symm.trans (x_rc_3 (by omega) (by omega) (by omega) (by omega)))) (fun z => absurd z (by decide)) (by omega)
      · refine to_an (pc := 40) rw_42_40 rfl (to_in (pc := 41) rw_42_41 rfl (s_v (pc := 42) rw_42_42 (dp0 hd (by decide)) (ls0 := [.ref p, .int f]) rfl (Nat.le_of_ble_eq_true rfl) (Nat.le_of_ble_eq_true rfl) rfl (to_rc rfl rfl rfl (g_o hG (by rcases hp with rfl | rfl <;> rfl))) rfl (to_an (pc := 0) rw_47_0 rfl (s_gR (pc := 1) rw_47_1 hG (by rcases hp with rfl | rfl <;> rfl) (v := (p + 4)) (by rcases hp with rfl | rfl <;> rfl) (to_in (pc := 4) rw_47_4 rfl (s_ial (pc := 5) rw_47_5 hG (by rcases hp with rfl | rfl <;> rfl) (n := 8) (by rcases hp with rfl | rfl <;> rfl) (by rcases hp with rfl | rfl <;> rfl) (A := f.toInt) rfl (by omega) (by omega) (lo := 0) (hi := 63) (by rcases hp with rfl | rfl <;> rfl) (by rcases hp with rfl | rfl <;> rfl) (fun v93 w_94 _ _ => ?_)))))))
        have z_95 := PLc_r g6 4 (by decide) (by decide) (k := f.toInt) (by omega) (by omega) w_94
        refine to_an (pc := 6) rw_47_6 rfl (s_gR (pc := 7) rw_47_7 hG (by rcases hp with rfl | rfl <;> rfl) (v := (p + 3)) (by rcases hp with rfl | rfl <;> rfl) (to_in (pc := 10) rw_47_10 rfl (s_ial (pc := 11) rw_47_11 hG (by rcases hp with rfl | rfl <;> rfl) (n := 8) (by rcases hp with rfl | rfl <;> rfl) (by rcases hp with rfl | rfl <;> rfl) (A := f.toInt) rfl (by omega) (by omega) (lo := 0) (hi := 59) (by rcases hp with rfl | rfl <;> rfl) (by rcases hp with rfl | rfl <;> rfl) (fun v96 w_97 _ _ => ?_))))
        have z_98 := PLc_r g6 3 (by decide) (by decide) (k := f.toInt) (by omega) (by omega) w_97
        refine s_sub (pc := 12) rw_47_12 (A := v93.toInt) (B := v96.toInt) rfl rfl (by omega) (fun v99 e100 => to_c (pc := 13) rw_47_13 (x := (1 : Int32)) rfl rfl (s_add (pc := 14) rw_47_14 (A := v99.toInt) (B := 1) rfl rfl (by omega) (fun v101 e102 => to_r0 (pc := 15) rw_47_15 (to_c (pc := 45) rw_42_45 (x := (1 : Int32)) rfl rfl (s_sub (pc := 46) rw_42_46 (A := v101.toInt) (B := 1) rfl rfl (by omega) (fun v103 e104 => to_go (pc := 47) rw_42_47 (to_is (pc := 51) rw_42_51 (ls2 := [.ref p, .ref 1, .int f, .long y3, .null, .int x5, .int v103, u7, u8]) rfl rfl (to_an (pc := 53) rw_42_53 rfl (to_c (pc := 54) rw_42_54 (x := (0 : Int32)) rfl rfl (to_i (pc := 55) rw_42_55 rfl (s_v (pc := 57) rw_42_57 (dp0 hd (by decide)) (ls0 := [.ref 1, .int (0 : Int32), .int v103]) rfl (Nat.le_of_ble_eq_true rfl) (Nat.le_of_ble_eq_true rfl) rfl (to_rc rfl rfl rfl (g_o hG rfl)) rfl ?_)))))))))))
        have k_105 : (0 : Int32).toInt = 0 := rfl
        refine E_88g hX (dp1 hd (by decide)) hG g5 (by omega) (l := (0 : Int32)) (m := v103) (t := t) (nn := nn) (a := (N.2.1 1 9).toInt) (fun r106 M116 hG108 F107 p_109 p_110 p_111 p_112 p_113 p_114 p_115 => ?_)
        have F117 := FR.c F0 F107 (fun a i z => show a = 1 ∧ 6 ≤ i ∧ i ≤ 11 ∨ a = p + 8 by have z : a = 1 ∧ (i = 10 ∨ i = 11) := z; omega)
        rcases (show r106.toInt = 0 ∨ r106.toInt = 1 by omega) with h118 | h118
        · skip
          have p_119 := p_112 (by omega)
          have p_120 := p_113 (by omega)
          have p_121 := p_114 (by omega)
          clear p_111 p_112 p_113 p_114 p_115
          have z_122 := x_val_b (t := t) (nn := nn) (a := (N.2.1 1 9).toInt)
          refine b_ine_f (pc := 60) rw_42_60 (A := r106.toInt) rfl (by omega) (to_c (pc := 63) rw_42_63 (x := (0 : Int32)) rfl rfl (s_r1 (pc := 64) rw_42_64 (A := 0) rfl (by decide) ?_))
          have j_123 := (CS_f (tg_34 F107) g5)
          have j_124 := (PLc_f (fun a i z => F_n F107 (show ¬ (a = 1 ∧ (i = 10 ∨ i = 11)) by omega) rfl) (F_nl F107 (show ¬ (p = 1 ∧ (4 = 10 ∨ 4 = 11)) by omega) rfl) g6)
          have j_125 := (CW_f (fun k hk9 => F_nl F107 (show ¬ ((p + 8) = 1 ∧ (k = 10 ∨ k = 11)) by omega) rfl) g7)
          exact h (0 : Int32) M116 hG108 F117 (by decide) (by decide) j_123 j_124 j_125 (fun _ => (if g9 : x_kind t nn (N.2.1 1 9).toInt = 3 then pinl (by have z9 := p_121.1 g9; omega) (by omega) (g8.symm.trans (x_rc_2 (by omega) g9 (by omega))) else pinl (by have z9 := p_121.2 g9; omega) (by omega) (g8.symm.trans (x_rc_1 (by omega) g9 (by omega) (by omega))))) (fun z => absurd z (by decide)) (by omega)
        · skip
          have p_126 := p_111 (by omega)
          have p_127 := p_115 (by omega)
          clear p_111 p_112 p_113 p_114 p_115
          have c_128 : M116.2.1 1 8 = (N.2.1 1 8) := (F_n F107 (show ¬ (1 = 1 ∧ (8 = 10 ∨ 8 = 11)) by decide) rfl)
          have z_129 := x_val_b (t := t) (nn := nn) (a := (N.2.1 1 9).toInt) (by omega)
          refine b_ine_t (pc := 60) rw_42_60 (A := r106.toInt) rfl (by omega) (to_cl (pc := 65) rw_42_65 rfl (x := (1 : Int64)) rfl (to_an (pc := 66) rw_42_66 rfl (s_gR (pc := 67) rw_42_67 hG108 (by rcases hp with rfl | rfl <;> rfl) (v := (p + 3)) (by rcases hp with rfl | rfl <;> rfl) (to_in (pc := 70) rw_42_70 rfl (s_ialk (pc := 71) rw_42_71 hG108 (by rcases hp with rfl | rfl <;> rfl) (n := 8) (by rcases hp with rfl | rfl <;> rfl) (by rcases hp with rfl | rfl <;> rfl) (A := f.toInt) rfl (by omega) (by omega) (v := v96) (F_n F107 (show ¬ ((p + 3) = 1 ∧ ((f.toInt).toNat = 10 ∨ (f.toInt).toNat = 11)) by omega) w_97) (to_an (pc := 72) rw_42_72 rfl (tt_gI (pc := 73) rw_42_73 (g_o hG108 rfl) (v := (N.2.1 1 8)) c_128 (s_add (pc := 76) rw_42_76 (A := v96.toInt) (B := (N.2.1 1 8).toInt) rfl rfl (by omega) (fun v132 e133 => to_2s (pc := 77) rw_42_77 (v := ((1 : Int64) <<< (v132.toInt64 &&& 63))) rfl (to_ls (pc := 78) rw_42_78 (ls2 := [.ref p, .ref 1, .int f, .long y3, .null, .int x5, .int v103, .long ((1 : Int64) <<< (v132.toInt64 &&& 63)), .null]) rfl rfl (to_ln (pc := 80) rw_42_80 rfl rfl rfl ?_)))))))))))
          refine to_l (pc := 81) rw_42_81 rfl rfl rfl (to_2l (pc := 83) rw_42_83 (v := (y3 &&& ((1 : Int64) <<< (v132.toInt64 &&& 63)))) rfl (to_cl (pc := 84) rw_42_84 rfl (x := (0 : Int64)) rfl (s_lcmpE (pc := 85) rw_42_85 (fun v134 e135 => ?_))))
          have b_136 := x_eq_b (x := (y3 &&& ((1 : Int64) <<< (v132.toInt64 &&& 63)))) (y := (0 : Int64))
          have z_137 := x_hit_e (v := v132) (bits := y3) (h := (x_row sg 3 f.toInt + x_val t nn (N.2.1 1 9).toInt))
          refine b_ieq (pc := 86) rw_42_86 (A := v134.toInt) rfl (fun h138 => ?_) (fun h138 => ?_)
          · refine to_ln (pc := 95) rw_42_95 rfl rfl rfl (to_l (pc := 96) rw_42_96 rfl rfl rfl (to_2l (pc := 98) rw_42_98 (v := (y3 ||| ((1 : Int64) <<< (v132.toInt64 &&& 63)))) rfl (to_lsn (pc := 99) rw_42_99 (ls2 := [.ref p, .ref 1, .int f, .long (y3 ||| ((1 : Int64) <<< (v132.toInt64 &&& 63))), .null, .int x5, .int v103, .long ((1 : Int64) <<< (v132.toInt64 &&& 63)), .null]) rfl rfl (s_inc (pc := 100) rw_42_100 (ls2 := fun v => [.ref p, .ref 1, .int f, .long (y3 ||| ((1 : Int64) <<< (v132.toInt64 &&& 63))), .null, .int v, .int v103, .long ((1 : Int64) <<< (v132.toInt64 &&& 63)), .null]) rfl rfl (fun _ => rfl) (A := x5.toInt) (B := 1) rfl rfl (by omega) (fun v139 e140 => to_an (pc := 103) rw_42_103 rfl (s_v (pc := 104) rw_42_104 (dp0 hd (by decide)) (ls0 := [.ref 1]) rfl (Nat.le_of_ble_eq_true rfl) (Nat.le_of_ble_eq_true rfl) rfl (to_rc rfl rfl rfl (g_o hG108 rfl)) rfl ?_))))))
            have j_141 := (CS_f (tg_34 F107) g5)
            have c_142 : M116.2.1 1 9 = (N.2.1 1 9) := (F_n F107 (show ¬ (1 = 1 ∧ (9 = 10 ∨ 9 = 11)) by decide) rfl)
            have t_143 : (M116.2.1 1 9).toInt = (N.2.1 1 9).toInt := congrArg Int32.toInt c_142
            refine E_83 hX (dp1 hd (by decide)) hG108 j_141 (by omega) (t := t) (nn := nn) (a := (N.2.1 1 9).toInt) (fun M148 hG145 F144 p_146 p_147 => ?_)
            have F149 := FR.c F117 F144 (fun a i z => show a = 1 ∧ 6 ≤ i ∧ i ≤ 11 ∨ a = p + 8 by have z : a = 1 ∧ 6 ≤ i ∧ i ≤ 9 := z; omega)
            refine to_go (pc := 107) rw_42_107 ?_
            have c_150 : M148.2.1 p 3 = (N.2.1 p 3) := (F_n F144 (show ¬ (p = 1 ∧ 6 ≤ 3 ∧ 3 ≤ 9) by omega) (F_n F107 (show ¬ (p = 1 ∧ (3 = 10 ∨ 3 = 11)) by omega) rfl))
            have t_151 : (M148.2.1 p 3).toInt = (N.2.1 p 3).toInt := congrArg Int32.toInt c_150
            have j_152 := (PLc_f (fun a i z => F_n F144 (show ¬ (a = 1 ∧ 6 ≤ i ∧ i ≤ 9) by omega) rfl) (F_nl F144 (show ¬ (p = 1 ∧ 6 ≤ 4 ∧ 4 ≤ 9) by omega) rfl) (PLc_f (fun a i z => F_n F107 (show ¬ (a = 1 ∧ (i = 10 ∨ i = 11)) by omega) rfl) (F_nl F107 (show ¬ (p = 1 ∧ (4 = 10 ∨ 4 = 11)) by omega) rfl) g6))
            have j_153 := (CW_f (fun k hk9 => F_nl F144 (show ¬ ((p + 8) = 1 ∧ 6 ≤ k ∧ k ≤ 9) by omega) rfl) (CW_f (fun k hk9 => F_nl F107 (show ¬ ((p + 8) = 1 ∧ (k = 10 ∨ k = 11)) by omega) rfl) g7))
            have c_154 : M148.2.1 1 10 = (M116.2.1 1 10) := (F_n F144 (show ¬ (1 = 1 ∧ 6 ≤ 10 ∧ 10 ≤ 9) by decide) rfl)
            have t_155 : (M148.2.1 1 10).toInt = (M116.2.1 1 10).toInt := congrArg Int32.toInt c_154
            have c_156 : M148.2.1 1 11 = (M116.2.1 1 11) := (F_n F144 (show ¬ (1 = 1 ∧ 6 ≤ 11 ∧ 11 ≤ 9) by decide) rfl)
            have t_157 : (M148.2.1 1 11).toInt = (M116.2.1 1 11).toInt := congrArg Int32.toInt c_156
            exact ih M148 (y3 ||| ((1 : Int64) <<< (v132.toInt64 &&& 63))) v139 (.int v103) (.long ((1 : Int64) <<< (v132.toInt64 &&& 63))) (.null) hG145 F149 (by omega) (by omega) (by omega) (by omega) p_146 j_152 j_153 (x_rc_s (fu := (6 - x5.toInt).toNat) (told := x5.toInt) (bits := y3) (b := (N.2.1 1 9).toInt) (by omega) (by omega) (by omega) (by omega) (by omega) (congrArg (fun z => y3 ||| z) (x_bit_e (v := v132) (by omega))) g8) (by omega) (by omega)
          · refine to_an (pc := 89) rw_42_89 rfl (to_c (pc := 90) rw_42_90 (x := (3 : Int32)) rfl rfl (s_v (pc := 91) rw_42_91 (dp0 hd (by decide)) (ls0 := [.ref 1, .int (3 : Int32)]) rfl (Nat.le_of_ble_eq_true rfl) (Nat.le_of_ble_eq_true rfl) rfl (to_rc rfl rfl rfl (g_o hG108 rfl)) rfl (to_an (pc := 0) rw_84_0 rfl (to_in (pc := 1) rw_84_1 rfl (s_pI (pc := 2) rw_84_2 hG108 rfl (fun M159 W158 => ?_))))))
            have hG160 := g_wf hG108 W158 rfl rfl (by decide)
            have F161 := FR.w F117 W158 (show 1 = 1 ∧ 6 ≤ 10 ∧ 10 ≤ 11 ∨ 1 = p + 8 by omega)
            refine to_an (pc := 5) rw_84_5 rfl (to_an (pc := 6) rw_84_6 rfl ?_)
            have c_162 : M159.2.1 1 9 = (N.2.1 1 9) := (W_n W158 (by decide) (F_n F107 (show ¬ (1 = 1 ∧ (9 = 10 ∨ 9 = 11)) by decide) rfl))
            refine tt_gI (pc := 7) rw_84_7 (g_o hG160 rfl) (v := (N.2.1 1 9)) c_162 (s_pI (pc := 10) rw_84_10 hG160 rfl (fun M164 W163 => ?_))
            have hG165 := g_wf hG160 W163 rfl rfl (by decide)
            have F166 := FR.w F161 W163 (show 1 = 1 ∧ 6 ≤ 11 ∧ 11 ≤ 11 ∨ 1 = p + 8 by omega)
            refine to_c (pc := 13) rw_84_13 (x := (0 : Int32)) rfl rfl (s_r1 (pc := 14) rw_84_14 (A := 0) rfl (by decide) (s_r1 (pc := 94) rw_42_94 (A := 0) rfl (by decide) ?_))
            have j_167 := (CS_f (fun a i z => W_n W163 (tg_32 a i z) rfl) (CS_f (fun a i z => W_n W158 (tg_33 a i z) rfl) (CS_f (tg_34 F107) g5)))
            have j_168 := (PLc_f (fun a i z => W_n W163 (by /-r1,11-/ omega) rfl) (W_j W163 rfl) (PLc_f (fun a i z => W_n W158 (by /-r1,10-/ omega) rfl) (W_j W158 rfl) (PLc_f (fun a i z => F_n F107 (show ¬ (a = 1 ∧ (i = 10 ∨ i = 11)) by omega) rfl) (F_nl F107 (show ¬ (p = 1 ∧ (4 = 10 ∨ 4 = 11)) by omega) rfl) g6)))
            have j_169 := (CW_f (fun k hk9 => W_j W163 rfl) (CW_f (fun k hk9 => W_j W158 rfl) (CW_f (fun k hk9 => F_nl F107 (show ¬ ((p + 8) = 1 ∧ (k = 10 ∨ k = 11)) by omega) rfl) g7)))
            have c_170 : M164.2.1 1 10 = (3 : Int32) := (W_n W163 (by decide) (W_e W158))
            have k_171 : (3 : Int32).toInt = 3 := rfl
            have t_172 : (M164.2.1 1 10).toInt = (3 : Int32).toInt := congrArg Int32.toInt c_170
            have c_173 : M164.2.1 1 11 = (N.2.1 1 9) := (W_e W163)
            have t_174 : (M164.2.1 1 11).toInt = (N.2.1 1 9).toInt := congrArg Int32.toInt c_173
            exact h (0 : Int32) M164 hG165 F166 (by decide) (by decide) j_167 j_168 j_169 (fun _ => pinl (by omega) (by omega) (g8.symm.trans (x_rc_3 (by omega) (by omega) (by omega) (by omega)))) (fun z => absurd z (by decide)) (by omega)
    · refine to_i (pc := 10) rw_42_10 rfl (to_an (pc := 12) rw_42_12 rfl (s_gR (pc := 13) rw_42_13 hG (by rcases hp with rfl | rfl <;> rfl) (v := (p + 5)) (by rcases hp with rfl | rfl <;> rfl) (to_in (pc := 16) rw_42_16 rfl (s_ial (pc := 17) rw_42_17 hG (by rcases hp with rfl | rfl <;> rfl) (n := 8) (by rcases hp with rfl | rfl <;> rfl) (by rcases hp with rfl | rfl <;> rfl) (A := f.toInt) rfl (by omega) (by omega) (lo := 0) (hi := 24) (by rcases hp with rfl | rfl <;> rfl) (by rcases hp with rfl | rfl <;> rfl) (fun v175 w_176 _ _ => ?_)))))
      have z_177 := PLc_r g6 5 (by decide) (by decide) (k := f.toInt) (by omega) (by omega) w_176
      refine b_cgt (pc := 18) rw_42_18 (A := x5.toInt) (B := v175.toInt) rfl rfl (fun h178 => ?_) (fun h178 => ?_)
      · refine to_an (pc := 110) rw_42_110 rfl (s_gR (pc := 111) rw_42_111 hG (by rcases hp with rfl | rfl <;> rfl) (v := (p + 8)) (by rcases hp with rfl | rfl <;> rfl) (to_an (pc := 114) rw_42_114 rfl (tt_gI (pc := 115) rw_42_115 (g_o hG (by rcases hp with rfl | rfl <;> rfl)) (v := (N.2.1 p 3)) rfl (to_ln (pc := 118) rw_42_118 rfl rfl rfl (s_las (pc := 119) rw_42_119 hG (by rcases hp with rfl | rfl <;> rfl) (n := 12) (by rcases hp with rfl | rfl <;> rfl) (A := (N.2.1 p 3).toInt) rfl (by omega) (by omega) (fun M180 W179 => ?_))))))
        have hG181 := g_wl hG W179
        have F182 := FR.wl F0 W179 (show (p + 8) = 1 ∧ 6 ≤ ((N.2.1 p 3).toInt).toNat ∧ ((N.2.1 p 3).toInt).toNat ≤ 11 ∨ (p + 8) = p + 8 by omega)
        refine to_i (pc := 120) rw_42_120 rfl (to_an (pc := 122) rw_42_122 rfl (s_gR (pc := 123) rw_42_123 hG181 (by rcases hp with rfl | rfl <;> rfl) (v := (p + 5)) (by rcases hp with rfl | rfl <;> rfl) (to_in (pc := 126) rw_42_126 rfl (s_ialk (pc := 127) rw_42_127 hG181 (by rcases hp with rfl | rfl <;> rfl) (n := 8) (by rcases hp with rfl | rfl <;> rfl) (by rcases hp with rfl | rfl <;> rfl) (A := f.toInt) rfl (by omega) (by omega) (v := v175) (W_l W179 w_176) (b_ceq (pc := 128) rw_42_128 (A := x5.toInt) (B := v175.toInt) rfl rfl (fun h185 => ?_) (fun h185 => ?_))))))
        · refine to_c (pc := 148) rw_42_148 (x := (1 : Int32)) rfl rfl (to_go (pc := 149) rw_42_149 (s_r1 (pc := 153) rw_42_153 (A := 1) rfl (by decide) ?_))
          have k_186 : (1 : Int32).toInt = 1 := rfl
          have j_187 := (CS_f (fun a i z => W_l W179 rfl) g5)
          have j_188 := (PLc_f (fun a i z => W_l W179 rfl) (L_n W179 (by omega) rfl) g6)
          have j_189 := (CW_f (fun k hk9 => L_n W179 (by omega) rfl) g7)
          have c_190 : M180.2.1 1 9 = (N.2.1 1 9) := (W_l W179 rfl)
          have t_191 : (M180.2.1 1 9).toInt = (N.2.1 1 9).toInt := congrArg Int32.toInt c_190
          have z_192 : M180.2.2.1 (p + 8) sg.2.2.1.toNat = y3 := by rw [show sg.2.2.1.toNat = ((N.2.1 p 3).toInt).toNat by omega]; exact (L_e W179)
          have c_193 : M180.2.1 1 10 = (N.2.1 1 10) := (W_l W179 rfl)
          have t_194 : (M180.2.1 1 10).toInt = (N.2.1 1 10).toInt := congrArg Int32.toInt c_193
          have c_195 : M180.2.1 1 11 = (N.2.1 1 11) := (W_l W179 rfl)
          have t_196 : (M180.2.1 1 11).toInt = (N.2.1 1 11).toInt := congrArg Int32.toInt c_195
          exact h (1 : Int32) M180 hG181 F182 (by decide) (by decide) j_187 j_188 j_189 (fun z => absurd z (by decide)) (fun _ => by rw [show (M180.2.1 1 9).toInt = (N.2.1 1 9).toInt by omega, z_192, ← g8]; first | exact Or.inl (x_rc_y (by omega) (by omega) (by omega)) | exact Or.inr ⟨x_rc_1 (by omega) (by omega) (by omega) (by omega), by omega⟩) (by omega)
        · refine to_an (pc := 131) rw_42_131 rfl ?_
          have c_197 : M180.2.1 1 7 = (N.2.1 1 7) := (W_l W179 rfl)
          have t_198 : (M180.2.1 1 7).toInt = (N.2.1 1 7).toInt := congrArg Int32.toInt c_197
          have c_199 : M180.2.1 1 8 = (N.2.1 1 8) := (W_l W179 rfl)
          have t_200 : (M180.2.1 1 8).toInt = (N.2.1 1 8).toInt := congrArg Int32.toInt c_199
          have c_201 : M180.2.1 1 9 = (N.2.1 1 9) := (W_l W179 rfl)
          have t_202 : (M180.2.1 1 9).toInt = (N.2.1 1 9).toInt := congrArg Int32.toInt c_201
          have j_203 := (CS_f (fun a i z => W_l W179 rfl) g5)
          have c_204 := CS_u j_203 (a := (N.2.1 1 9).toInt) (by omega)
          unfold x_C at c_204
          refine tt_gI (pc := 132) rw_42_132 (g_o hG181 rfl) (v := (N.2.1 1 7)) c_197 (to_c (pc := 135) rw_42_135 (x := (59 : Int32)) rfl rfl (b_cne (pc := 137) rw_42_137 (A := (N.2.1 1 7).toInt) (B := 59) rfl rfl (fun h205 => ?_) (fun h205 => ?_)))
          · refine to_c (pc := 148) rw_42_148 (x := (1 : Int32)) rfl rfl (to_go (pc := 149) rw_42_149 (s_r1 (pc := 153) rw_42_153 (A := 1) rfl (by decide) ?_))
            have k_206 : (1 : Int32).toInt = 1 := rfl
            have j_207 := (PLc_f (fun a i z => W_l W179 rfl) (L_n W179 (by omega) rfl) g6)
            have j_208 := (CW_f (fun k hk9 => L_n W179 (by omega) rfl) g7)
            have z_209 : M180.2.2.1 (p + 8) sg.2.2.1.toNat = y3 := by rw [show sg.2.2.1.toNat = ((N.2.1 p 3).toInt).toNat by omega]; exact (L_e W179)
            have c_210 : M180.2.1 1 10 = (N.2.1 1 10) := (W_l W179 rfl)
            have t_211 : (M180.2.1 1 10).toInt = (N.2.1 1 10).toInt := congrArg Int32.toInt c_210
            have c_212 : M180.2.1 1 11 = (N.2.1 1 11) := (W_l W179 rfl)
            have t_213 : (M180.2.1 1 11).toInt = (N.2.1 1 11).toInt := congrArg Int32.toInt c_212
            exact h (1 : Int32) M180 hG181 F182 (by decide) (by decide) j_203 j_207 j_208 (fun z => absurd z (by decide)) (fun _ => by rw [show (M180.2.1 1 9).toInt = (N.2.1 1 9).toInt by omega, z_209, ← g8]; first | exact Or.inl (x_rc_y (by omega) (by omega) (by omega)) | exact Or.inr ⟨x_rc_1 (by omega) (by omega) (by omega) (by omega), by omega⟩) (by omega)
          · refine to_an (pc := 140) rw_42_140 rfl (to_c (pc := 141) rw_42_141 (x := (5 : Int32)) rfl rfl (s_v (pc := 142) rw_42_142 (dp0 hd (by decide)) (ls0 := [.ref 1, .int (5 : Int32)]) rfl (Nat.le_of_ble_eq_true rfl) (Nat.le_of_ble_eq_true rfl) rfl (to_rc rfl rfl rfl (g_o hG181 rfl)) rfl (to_an (pc := 0) rw_84_0 rfl (to_in (pc := 1) rw_84_1 rfl (s_pI (pc := 2) rw_84_2 hG181 rfl (fun M215 W214 => ?_))))))
            have hG216 := g_wf hG181 W214 rfl rfl (by decide)
            have F217 := FR.w F182 W214 (show 1 = 1 ∧ 6 ≤ 10 ∧ 10 ≤ 11 ∨ 1 = p + 8 by omega)
            refine to_an (pc := 5) rw_84_5 rfl (to_an (pc := 6) rw_84_6 rfl ?_)
            have c_218 : M215.2.1 1 9 = (N.2.1 1 9) := (W_n W214 (by decide) c_201)
            refine tt_gI (pc := 7) rw_84_7 (g_o hG216 rfl) (v := (N.2.1 1 9)) c_218 (s_pI (pc := 10) rw_84_10 hG216 rfl (fun M220 W219 => ?_))
            have hG221 := g_wf hG216 W219 rfl rfl (by decide)
            have F222 := FR.w F217 W219 (show 1 = 1 ∧ 6 ≤ 11 ∧ 11 ≤ 11 ∨ 1 = p + 8 by omega)
            refine to_c (pc := 13) rw_84_13 (x := (0 : Int32)) rfl rfl (s_r1 (pc := 14) rw_84_14 (A := 0) rfl (by decide) (b_ieq_t (pc := 145) rw_42_145 (A := 0) rfl (by decide) (to_c (pc := 152) rw_42_152 (x := (0 : Int32)) rfl rfl (s_r1 (pc := 153) rw_42_153 (A := 0) rfl (by decide) ?_))))
            have k_223 : (0 : Int32).toInt = 0 := rfl
            have j_224 := (CS_f (fun a i z => W_n W219 (tg_32 a i z) rfl) (CS_f (fun a i z => W_n W214 (tg_33 a i z) rfl) j_203))
            have j_225 := (PLc_f (fun a i z => W_n W219 (by /-r1,11-/ omega) rfl) (W_j W219 rfl) (PLc_f (fun a i z => W_n W214 (by /-r1,10-/ omega) rfl) (W_j W214 rfl) (PLc_f (fun a i z => W_l W179 rfl) (L_n W179 (by omega) rfl) g6)))
            have j_226 := (CW_f (fun k hk9 => W_j W219 rfl) (CW_f (fun k hk9 => W_j W214 rfl) (CW_f (fun k hk9 => L_n W179 (by omega) rfl) g7)))
            have c_227 : M220.2.1 1 10 = (5 : Int32) := (W_n W219 (by decide) (W_e W214))
            have k_228 : (5 : Int32).toInt = 5 := rfl
            have t_229 : (M220.2.1 1 10).toInt = (5 : Int32).toInt := congrArg Int32.toInt c_227
            have c_230 : M220.2.1 1 11 = (N.2.1 1 9) := (W_e W219)
            have t_231 : (M220.2.1 1 11).toInt = (N.2.1 1 9).toInt := congrArg Int32.toInt c_230
            exact h (0 : Int32) M220 hG221 F222 (by decide) (by decide) j_224 j_225 j_226 (fun _ => pinl (by omega) (by omega) (g8.symm.trans (x_rc_5 (by omega) (by omega) (by omega) (by omega)))) (fun z => absurd z (by decide)) (by omega)
      · refine to_an (pc := 21) rw_42_21 rfl ?_
        have c_232 := CS_u g5 (a := (N.2.1 1 9).toInt) (by omega)
        unfold x_C at c_232
        refine tt_gI (pc := 22) rw_42_22 (g_o hG rfl) (v := (N.2.1 1 7)) rfl (to_c (pc := 25) rw_42_25 (x := (2 : Int32)) rfl rfl (b_cne (pc := 26) rw_42_26 (A := (N.2.1 1 7).toInt) (B := 2) rfl rfl (fun h233 => ?_) (fun h233 => ?_)))
        · refine to_an (pc := 110) rw_42_110 rfl (s_gR (pc := 111) rw_42_111 hG (by rcases hp with rfl | rfl <;> rfl) (v := (p + 8)) (by rcases hp with rfl | rfl <;> rfl) (to_an (pc := 114) rw_42_114 rfl (tt_gI (pc := 115) rw_42_115 (g_o hG (by rcases hp with rfl | rfl <;> rfl)) (v := (N.2.1 p 3)) rfl (to_ln (pc := 118) rw_42_118 rfl rfl rfl (s_las (pc := 119) rw_42_119 hG (by rcases hp with rfl | rfl <;> rfl) (n := 12) (by rcases hp with rfl | rfl <;> rfl) (A := (N.2.1 p 3).toInt) rfl (by omega) (by omega) (fun M235 W234 => ?_))))))
          have hG236 := g_wl hG W234
          have F237 := FR.wl F0 W234 (show (p + 8) = 1 ∧ 6 ≤ ((N.2.1 p 3).toInt).toNat ∧ ((N.2.1 p 3).toInt).toNat ≤ 11 ∨ (p + 8) = p + 8 by omega)
          refine to_i (pc := 120) rw_42_120 rfl (to_an (pc := 122) rw_42_122 rfl (s_gR (pc := 123) rw_42_123 hG236 (by rcases hp with rfl | rfl <;> rfl) (v := (p + 5)) (by rcases hp with rfl | rfl <;> rfl) (to_in (pc := 126) rw_42_126 rfl (s_ialk (pc := 127) rw_42_127 hG236 (by rcases hp with rfl | rfl <;> rfl) (n := 8) (by rcases hp with rfl | rfl <;> rfl) (by rcases hp with rfl | rfl <;> rfl) (A := f.toInt) rfl (by omega) (by omega) (v := v175) (W_l W234 w_176) (b_ceq (pc := 128) rw_42_128 (A := x5.toInt) (B := v175.toInt) rfl rfl (fun h240 => ?_) (fun h240 => ?_))))))
          · refine to_c (pc := 148) rw_42_148 (x := (1 : Int32)) rfl rfl (to_go (pc := 149) rw_42_149 (s_r1 (pc := 153) rw_42_153 (A := 1) rfl (by decide) ?_))
            have k_241 : (1 : Int32).toInt = 1 := rfl
            have j_242 := (CS_f (fun a i z => W_l W234 rfl) g5)
            have j_243 := (PLc_f (fun a i z => W_l W234 rfl) (L_n W234 (by omega) rfl) g6)
            have j_244 := (CW_f (fun k hk9 => L_n W234 (by omega) rfl) g7)
            have c_245 : M235.2.1 1 9 = (N.2.1 1 9) := (W_l W234 rfl)
            have t_246 : (M235.2.1 1 9).toInt = (N.2.1 1 9).toInt := congrArg Int32.toInt c_245
            have z_247 : M235.2.2.1 (p + 8) sg.2.2.1.toNat = y3 := by rw [show sg.2.2.1.toNat = ((N.2.1 p 3).toInt).toNat by omega]; exact (L_e W234)
            have c_248 : M235.2.1 1 10 = (N.2.1 1 10) := (W_l W234 rfl)
            have t_249 : (M235.2.1 1 10).toInt = (N.2.1 1 10).toInt := congrArg Int32.toInt c_248
            have c_250 : M235.2.1 1 11 = (N.2.1 1 11) := (W_l W234 rfl)
            have t_251 : (M235.2.1 1 11).toInt = (N.2.1 1 11).toInt := congrArg Int32.toInt c_250
            exact h (1 : Int32) M235 hG236 F237 (by decide) (by decide) j_242 j_243 j_244 (fun z => absurd z (by decide)) (fun _ => by rw [show (M235.2.1 1 9).toInt = (N.2.1 1 9).toInt by omega, z_247, ← g8]; first | exact Or.inl (x_rc_y (by omega) (by omega) (by omega)) | exact Or.inr ⟨x_rc_1 (by omega) (by omega) (by omega) (by omega), by omega⟩) (by omega)
          · refine to_an (pc := 131) rw_42_131 rfl ?_
            have c_252 : M235.2.1 1 7 = (N.2.1 1 7) := (W_l W234 rfl)
            have t_253 : (M235.2.1 1 7).toInt = (N.2.1 1 7).toInt := congrArg Int32.toInt c_252
            have c_254 : M235.2.1 1 8 = (N.2.1 1 8) := (W_l W234 rfl)
            have t_255 : (M235.2.1 1 8).toInt = (N.2.1 1 8).toInt := congrArg Int32.toInt c_254
            have c_256 : M235.2.1 1 9 = (N.2.1 1 9) := (W_l W234 rfl)
            have t_257 : (M235.2.1 1 9).toInt = (N.2.1 1 9).toInt := congrArg Int32.toInt c_256
            have j_258 := (CS_f (fun a i z => W_l W234 rfl) g5)
            have c_259 := CS_u j_258 (a := (N.2.1 1 9).toInt) (by omega)
            unfold x_C at c_259
            refine tt_gI (pc := 132) rw_42_132 (g_o hG236 rfl) (v := (N.2.1 1 7)) c_252 (to_c (pc := 135) rw_42_135 (x := (59 : Int32)) rfl rfl (b_cne (pc := 137) rw_42_137 (A := (N.2.1 1 7).toInt) (B := 59) rfl rfl (fun h260 => ?_) (fun h260 => ?_)))
            · refine to_c (pc := 148) rw_42_148 (x := (1 : Int32)) rfl rfl (to_go (pc := 149) rw_42_149 (s_r1 (pc := 153) rw_42_153 (A := 1) rfl (by decide) ?_))
              have k_261 : (1 : Int32).toInt = 1 := rfl
              have j_262 := (PLc_f (fun a i z => W_l W234 rfl) (L_n W234 (by omega) rfl) g6)
              have j_263 := (CW_f (fun k hk9 => L_n W234 (by omega) rfl) g7)
              have z_264 : M235.2.2.1 (p + 8) sg.2.2.1.toNat = y3 := by rw [show sg.2.2.1.toNat = ((N.2.1 p 3).toInt).toNat by omega]; exact (L_e W234)
              have c_265 : M235.2.1 1 10 = (N.2.1 1 10) := (W_l W234 rfl)
              have t_266 : (M235.2.1 1 10).toInt = (N.2.1 1 10).toInt := congrArg Int32.toInt c_265
              have c_267 : M235.2.1 1 11 = (N.2.1 1 11) := (W_l W234 rfl)
              have t_268 : (M235.2.1 1 11).toInt = (N.2.1 1 11).toInt := congrArg Int32.toInt c_267
              exact h (1 : Int32) M235 hG236 F237 (by decide) (by decide) j_258 j_262 j_263 (fun z => absurd z (by decide)) (fun _ => by rw [show (M235.2.1 1 9).toInt = (N.2.1 1 9).toInt by omega, z_264, ← g8]; first | exact Or.inl (x_rc_y (by omega) (by omega) (by omega)) | exact Or.inr ⟨x_rc_1 (by omega) (by omega) (by omega) (by omega), by omega⟩) (by omega)
            · refine to_an (pc := 140) rw_42_140 rfl (to_c (pc := 141) rw_42_141 (x := (5 : Int32)) rfl rfl (s_v (pc := 142) rw_42_142 (dp0 hd (by decide)) (ls0 := [.ref 1, .int (5 : Int32)]) rfl (Nat.le_of_ble_eq_true rfl) (Nat.le_of_ble_eq_true rfl) rfl (to_rc rfl rfl rfl (g_o hG236 rfl)) rfl (to_an (pc := 0) rw_84_0 rfl (to_in (pc := 1) rw_84_1 rfl (s_pI (pc := 2) rw_84_2 hG236 rfl (fun M270 W269 => ?_))))))
              have hG271 := g_wf hG236 W269 rfl rfl (by decide)
              have F272 := FR.w F237 W269 (show 1 = 1 ∧ 6 ≤ 10 ∧ 10 ≤ 11 ∨ 1 = p + 8 by omega)
              refine to_an (pc := 5) rw_84_5 rfl (to_an (pc := 6) rw_84_6 rfl ?_)
              have c_273 : M270.2.1 1 9 = (N.2.1 1 9) := (W_n W269 (by decide) c_256)
              refine tt_gI (pc := 7) rw_84_7 (g_o hG271 rfl) (v := (N.2.1 1 9)) c_273 (s_pI (pc := 10) rw_84_10 hG271 rfl (fun M275 W274 => ?_))
              have hG276 := g_wf hG271 W274 rfl rfl (by decide)
              have F277 := FR.w F272 W274 (show 1 = 1 ∧ 6 ≤ 11 ∧ 11 ≤ 11 ∨ 1 = p + 8 by omega)
              refine to_c (pc := 13) rw_84_13 (x := (0 : Int32)) rfl rfl (s_r1 (pc := 14) rw_84_14 (A := 0) rfl (by decide) (b_ieq_t (pc := 145) rw_42_145 (A := 0) rfl (by decide) (to_c (pc := 152) rw_42_152 (x := (0 : Int32)) rfl rfl (s_r1 (pc := 153) rw_42_153 (A := 0) rfl (by decide) ?_))))
              have k_278 : (0 : Int32).toInt = 0 := rfl
              have j_279 := (CS_f (fun a i z => W_n W274 (tg_32 a i z) rfl) (CS_f (fun a i z => W_n W269 (tg_33 a i z) rfl) j_258))
              have j_280 := (PLc_f (fun a i z => W_n W274 (by /-r1,11-/ omega) rfl) (W_j W274 rfl) (PLc_f (fun a i z => W_n W269 (by /-r1,10-/ omega) rfl) (W_j W269 rfl) (PLc_f (fun a i z => W_l W234 rfl) (L_n W234 (by omega) rfl) g6)))
              have j_281 := (CW_f (fun k hk9 => W_j W274 rfl) (CW_f (fun k hk9 => W_j W269 rfl) (CW_f (fun k hk9 => L_n W234 (by omega) rfl) g7)))
              have c_282 : M275.2.1 1 10 = (5 : Int32) := (W_n W274 (by decide) (W_e W269))
              have k_283 : (5 : Int32).toInt = 5 := rfl
              have t_284 : (M275.2.1 1 10).toInt = (5 : Int32).toInt := congrArg Int32.toInt c_282
              have c_285 : M275.2.1 1 11 = (N.2.1 1 9) := (W_e W274)
              have t_286 : (M275.2.1 1 11).toInt = (N.2.1 1 9).toInt := congrArg Int32.toInt c_285
              exact h (0 : Int32) M275 hG276 F277 (by decide) (by decide) j_279 j_280 j_281 (fun _ => pinl (by omega) (by omega) (g8.symm.trans (x_rc_5 (by omega) (by omega) (by omega) (by omega)))) (fun z => absurd z (by decide)) (by omega)
        · refine to_i (pc := 29) rw_42_29 rfl (to_an (pc := 31) rw_42_31 rfl (s_gR (pc := 32) rw_42_32 hG (by rcases hp with rfl | rfl <;> rfl) (v := (p + 5)) (by rcases hp with rfl | rfl <;> rfl) (to_in (pc := 35) rw_42_35 rfl (s_ialk (pc := 36) rw_42_36 hG (by rcases hp with rfl | rfl <;> rfl) (n := 8) (by rcases hp with rfl | rfl <;> rfl) (by rcases hp with rfl | rfl <;> rfl) (A := f.toInt) rfl (by omega) (by omega) (v := v175) w_176 (b_cge (pc := 37) rw_42_37 (A := x5.toInt) (B := v175.toInt) rfl rfl (fun h289 => ?_) (fun h289 => ?_))))))
          · refine to_c (pc := 50) rw_42_50 (x := (-1 : Int32)) rfl rfl (to_is (pc := 51) rw_42_51 (ls2 := [.ref p, .ref 1, .int f, .long y3, .null, .int x5, .int (-1 : Int32), u7, u8]) rfl rfl (to_an (pc := 53) rw_42_53 rfl (to_c (pc := 54) rw_42_54 (x := (0 : Int32)) rfl rfl (to_i (pc := 55) rw_42_55 rfl (s_v (pc := 57) rw_42_57 (dp0 hd (by decide)) (ls0 := [.ref 1, .int (0 : Int32), .int (-1 : Int32)]) rfl (Nat.le_of_ble_eq_true rfl) (Nat.le_of_ble_eq_true rfl) rfl (to_rc rfl rfl rfl (g_o hG rfl)) rfl ?_)))))
            have k_290 : (0 : Int32).toInt = 0 := rfl
            have k_291 : (-1 : Int32).toInt = -1 := rfl
            refine E_88g hX (dp1 hd (by decide)) hG g5 (by omega) (l := (0 : Int32)) (m := (-1 : Int32)) (t := t) (nn := nn) (a := (N.2.1 1 9).toInt) (fun r292 M302 hG294 F293 p_295 p_296 p_297 p_298 p_299 p_300 p_301 => ?_)
            have F303 := FR.c F0 F293 (fun a i z => show a = 1 ∧ 6 ≤ i ∧ i ≤ 11 ∨ a = p + 8 by have z : a = 1 ∧ (i = 10 ∨ i = 11) := z; omega)
            rcases (show r292.toInt = 0 ∨ r292.toInt = 1 by omega) with h304 | h304
            · skip
              have p_305 := p_298 (by omega)
              have p_306 := p_299 (by omega)
              have p_307 := p_300 (by omega)
              clear p_297 p_298 p_299 p_300 p_301
              have z_308 := x_val_b (t := t) (nn := nn) (a := (N.2.1 1 9).toInt)
              refine b_ine_f (pc := 60) rw_42_60 (A := r292.toInt) rfl (by omega) (to_c (pc := 63) rw_42_63 (x := (0 : Int32)) rfl rfl (s_r1 (pc := 64) rw_42_64 (A := 0) rfl (by decide) ?_))
              have j_309 := (CS_f (tg_34 F293) g5)
              have j_310 := (PLc_f (fun a i z => F_n F293 (show ¬ (a = 1 ∧ (i = 10 ∨ i = 11)) by omega) rfl) (F_nl F293 (show ¬ (p = 1 ∧ (4 = 10 ∨ 4 = 11)) by omega) rfl) g6)
              have j_311 := (CW_f (fun k hk9 => F_nl F293 (show ¬ ((p + 8) = 1 ∧ (k = 10 ∨ k = 11)) by omega) rfl) g7)
              exact h (0 : Int32) M302 hG294 F303 (by decide) (by decide) j_309 j_310 j_311 (fun _ => (if g9 : x_kind t nn (N.2.1 1 9).toInt = 3 then pinl (by have z9 := p_307.1 g9; omega) (by omega) (g8.symm.trans (x_rc_2 (by omega) g9 (by omega))) else pinl (by have z9 := p_307.2 g9; omega) (by omega) (g8.symm.trans (x_rc_1 (by omega) g9 (by omega) (by omega))))) (fun z => absurd z (by decide)) (by omega)
            · skip
              have p_312 := p_297 (by omega)
              have p_313 := p_301 (by omega)
              clear p_297 p_298 p_299 p_300 p_301
              have c_314 : M302.2.1 1 8 = (N.2.1 1 8) := (F_n F293 (show ¬ (1 = 1 ∧ (8 = 10 ∨ 8 = 11)) by decide) rfl)
              have z_315 := x_val_b (t := t) (nn := nn) (a := (N.2.1 1 9).toInt) (by omega)
              refine b_ine_t (pc := 60) rw_42_60 (A := r292.toInt) rfl (by omega) (to_cl (pc := 65) rw_42_65 rfl (x := (1 : Int64)) rfl (to_an (pc := 66) rw_42_66 rfl (s_gR (pc := 67) rw_42_67 hG294 (by rcases hp with rfl | rfl <;> rfl) (v := (p + 3)) (by rcases hp with rfl | rfl <;> rfl) (to_in (pc := 70) rw_42_70 rfl (s_ial (pc := 71) rw_42_71 hG294 (by rcases hp with rfl | rfl <;> rfl) (n := 8) (by rcases hp with rfl | rfl <;> rfl) (by rcases hp with rfl | rfl <;> rfl) (A := f.toInt) rfl (by omega) (by omega) (lo := 0) (hi := 59) (by rcases hp with rfl | rfl <;> rfl) (by rcases hp with rfl | rfl <;> rfl) (fun v316 w_317 _ _ => ?_))))))
              have j_318 := (PLc_f (fun a i z => F_n F293 (show ¬ (a = 1 ∧ (i = 10 ∨ i = 11)) by omega) rfl) (F_nl F293 (show ¬ (p = 1 ∧ (4 = 10 ∨ 4 = 11)) by omega) rfl) g6)
              have z_319 := PLc_r j_318 3 (by decide) (by decide) (k := f.toInt) (by omega) (by omega) w_317
              refine to_an (pc := 72) rw_42_72 rfl (tt_gI (pc := 73) rw_42_73 (g_o hG294 rfl) (v := (N.2.1 1 8)) c_314 (s_add (pc := 76) rw_42_76 (A := v316.toInt) (B := (N.2.1 1 8).toInt) rfl rfl (by omega) (fun v320 e321 => to_2s (pc := 77) rw_42_77 (v := ((1 : Int64) <<< (v320.toInt64 &&& 63))) rfl (to_ls (pc := 78) rw_42_78 (ls2 := [.ref p, .ref 1, .int f, .long y3, .null, .int x5, .int (-1 : Int32), .long ((1 : Int64) <<< (v320.toInt64 &&& 63)), .null]) rfl rfl (to_ln (pc := 80) rw_42_80 rfl rfl rfl (to_l (pc := 81) rw_42_81 rfl rfl rfl (to_2l (pc := 83) rw_42_83 (v := (y3 &&& ((1 : Int64) <<< (v320.toInt64 &&& 63)))) rfl (to_cl (pc := 84) rw_42_84 rfl (x := (0 : Int64)) rfl (s_lcmpE (pc := 85) rw_42_85 (fun v322 e323 => ?_))))))))))
              have b_324 := x_eq_b (x := (y3 &&& ((1 : Int64) <<< (v320.toInt64 &&& 63)))) (y := (0 : Int64))
              have z_325 := x_hit_e (v := v320) (bits := y3) (h := (x_row sg 3 f.toInt + x_val t nn (N.2.1 1 9).toInt))
              refine b_ieq (pc := 86) rw_42_86 (A := v322.toInt) rfl (fun h326 => ?_) (fun h326 => ?_)
              · refine to_ln (pc := 95) rw_42_95 rfl rfl rfl (to_l (pc := 96) rw_42_96 rfl rfl rfl (to_2l (pc := 98) rw_42_98 (v := (y3 ||| ((1 : Int64) <<< (v320.toInt64 &&& 63)))) rfl (to_lsn (pc := 99) rw_42_99 (ls2 := [.ref p, .ref 1, .int f, .long (y3 ||| ((1 : Int64) <<< (v320.toInt64 &&& 63))), .null, .int x5, .int (-1 : Int32), .long ((1 : Int64) <<< (v320.toInt64 &&& 63)), .null]) rfl rfl (s_inc (pc := 100) rw_42_100 (ls2 := fun v => [.ref p, .ref 1, .int f, .long (y3 ||| ((1 : Int64) <<< (v320.toInt64 &&& 63))), .null, .int v, .int (-1 : Int32), .long ((1 : Int64) <<< (v320.toInt64 &&& 63)), .null]) rfl rfl (fun _ => rfl) (A := x5.toInt) (B := 1) rfl rfl (by omega) (fun v327 e328 => to_an (pc := 103) rw_42_103 rfl (s_v (pc := 104) rw_42_104 (dp0 hd (by decide)) (ls0 := [.ref 1]) rfl (Nat.le_of_ble_eq_true rfl) (Nat.le_of_ble_eq_true rfl) rfl (to_rc rfl rfl rfl (g_o hG294 rfl)) rfl ?_))))))
                have j_329 := (CS_f (tg_34 F293) g5)
                have c_330 : M302.2.1 1 9 = (N.2.1 1 9) := (F_n F293 (show ¬ (1 = 1 ∧ (9 = 10 ∨ 9 = 11)) by decide) rfl)
                have t_331 : (M302.2.1 1 9).toInt = (N.2.1 1 9).toInt := congrArg Int32.toInt c_330
                refine E_83 hX (dp1 hd (by decide)) hG294 j_329 (by omega) (t := t) (nn := nn) (a := (N.2.1 1 9).toInt) (fun M336 hG333 F332 p_334 p_335 => ?_)
                have F337 := FR.c F303 F332 (fun a i z => show a = 1 ∧ 6 ≤ i ∧ i ≤ 11 ∨ a = p + 8 by have z : a = 1 ∧ 6 ≤ i ∧ i ≤ 9 := z; omega)
                refine to_go (pc := 107) rw_42_107 ?_
                have c_338 : M336.2.1 p 3 = (N.2.1 p 3) := (F_n F332 (show ¬ (p = 1 ∧ 6 ≤ 3 ∧ 3 ≤ 9) by omega) (F_n F293 (show ¬ (p = 1 ∧ (3 = 10 ∨ 3 = 11)) by omega) rfl))
                have t_339 : (M336.2.1 p 3).toInt = (N.2.1 p 3).toInt := congrArg Int32.toInt c_338
                have j_340 := (PLc_f (fun a i z => F_n F332 (show ¬ (a = 1 ∧ 6 ≤ i ∧ i ≤ 9) by omega) rfl) (F_nl F332 (show ¬ (p = 1 ∧ 6 ≤ 4 ∧ 4 ≤ 9) by omega) rfl) j_318)
                have j_341 := (CW_f (fun k hk9 => F_nl F332 (show ¬ ((p + 8) = 1 ∧ 6 ≤ k ∧ k ≤ 9) by omega) rfl) (CW_f (fun k hk9 => F_nl F293 (show ¬ ((p + 8) = 1 ∧ (k = 10 ∨ k = 11)) by omega) rfl) g7))
                have c_342 : M336.2.1 1 10 = (M302.2.1 1 10) := (F_n F332 (show ¬ (1 = 1 ∧ 6 ≤ 10 ∧ 10 ≤ 9) by decide) rfl)
                have t_343 : (M336.2.1 1 10).toInt = (M302.2.1 1 10).toInt := congrArg Int32.toInt c_342
                have c_344 : M336.2.1 1 11 = (M302.2.1 1 11) := (F_n F332 (show ¬ (1 = 1 ∧ 6 ≤ 11 ∧ 11 ≤ 9) by decide) rfl)
                have t_345 : (M336.2.1 1 11).toInt = (M302.2.1 1 11).toInt := congrArg Int32.toInt c_344
                exact ih M336 (y3 ||| ((1 : Int64) <<< (v320.toInt64 &&& 63))) v327 (.int (-1 : Int32)) (.long ((1 : Int64) <<< (v320.toInt64 &&& 63))) (.null) hG333 F337 (by omega) (by omega) (by omega) (by omega) p_334 j_340 j_341 (x_rc_s (fu := (6 - x5.toInt).toNat) (told := x5.toInt) (bits := y3) (b := (N.2.1 1 9).toInt) (by omega) (by omega) (by omega) (by omega) (by omega) (congrArg (fun z => y3 ||| z) (x_bit_e (v := v320) (by omega))) g8) (by omega) (by omega)
              · refine to_an (pc := 89) rw_42_89 rfl (to_c (pc := 90) rw_42_90 (x := (3 : Int32)) rfl rfl (s_v (pc := 91) rw_42_91 (dp0 hd (by decide)) (ls0 := [.ref 1, .int (3 : Int32)]) rfl (Nat.le_of_ble_eq_true rfl) (Nat.le_of_ble_eq_true rfl) rfl (to_rc rfl rfl rfl (g_o hG294 rfl)) rfl (to_an (pc := 0) rw_84_0 rfl (to_in (pc := 1) rw_84_1 rfl (s_pI (pc := 2) rw_84_2 hG294 rfl (fun M347 W346 => ?_))))))
                have hG348 := g_wf hG294 W346 rfl rfl (by decide)
                have F349 := FR.w F303 W346 (show 1 = 1 ∧ 6 ≤ 10 ∧ 10 ≤ 11 ∨ 1 = p + 8 by omega)
                refine to_an (pc := 5) rw_84_5 rfl (to_an (pc := 6) rw_84_6 rfl ?_)
                have c_350 : M347.2.1 1 9 = (N.2.1 1 9) := (W_n W346 (by decide) (F_n F293 (show ¬ (1 = 1 ∧ (9 = 10 ∨ 9 = 11)) by decide) rfl))
                refine tt_gI (pc := 7) rw_84_7 (g_o hG348 rfl) (v := (N.2.1 1 9)) c_350 (s_pI (pc := 10) rw_84_10 hG348 rfl (fun M352 W351 => ?_))
                have hG353 := g_wf hG348 W351 rfl rfl (by decide)
                have F354 := FR.w F349 W351 (show 1 = 1 ∧ 6 ≤ 11 ∧ 11 ≤ 11 ∨ 1 = p + 8 by omega)
                refine to_c (pc := 13) rw_84_13 (x := (0 : Int32)) rfl rfl (s_r1 (pc := 14) rw_84_14 (A := 0) rfl (by decide) (s_r1 (pc := 94) rw_42_94 (A := 0) rfl (by decide) ?_))
                have j_355 := (CS_f (fun a i z => W_n W351 (tg_32 a i z) rfl) (CS_f (fun a i z => W_n W346 (tg_33 a i z) rfl) (CS_f (tg_34 F293) g5)))
                have j_356 := (PLc_f (fun a i z => W_n W351 (by /-r1,11-/ omega) rfl) (W_j W351 rfl) (PLc_f (fun a i z => W_n W346 (by /-r1,10-/ omega) rfl) (W_j W346 rfl) j_318))
                have j_357 := (CW_f (fun k hk9 => W_j W351 rfl) (CW_f (fun k hk9 => W_j W346 rfl) (CW_f (fun k hk9 => F_nl F293 (show ¬ ((p + 8) = 1 ∧ (k = 10 ∨ k = 11)) by omega) rfl) g7)))
                have c_358 : M352.2.1 1 10 = (3 : Int32) := (W_n W351 (by decide) (W_e W346))
                have k_359 : (3 : Int32).toInt = 3 := rfl
                have t_360 : (M352.2.1 1 10).toInt = (3 : Int32).toInt := congrArg Int32.toInt c_358
                have c_361 : M352.2.1 1 11 = (N.2.1 1 9) := (W_e W351)
                have t_362 : (M352.2.1 1 11).toInt = (N.2.1 1 9).toInt := congrArg Int32.toInt c_361
                exact h (0 : Int32) M352 hG353 F354 (by decide) (by decide) j_355 j_356 j_357 (fun _ => pinl (by omega) (by omega) (g8.symm.trans (x_rc_3 (by omega) (by omega) (by omega) (by omega)))) (fun z => absurd z (by decide)) (by omega)
          · refine to_an (pc := 40) rw_42_40 rfl (to_in (pc := 41) rw_42_41 rfl (s_v (pc := 42) rw_42_42 (dp0 hd (by decide)) (ls0 := [.ref p, .int f]) rfl (Nat.le_of_ble_eq_true rfl) (Nat.le_of_ble_eq_true rfl) rfl (to_rc rfl rfl rfl (g_o hG (by rcases hp with rfl | rfl <;> rfl))) rfl (to_an (pc := 0) rw_47_0 rfl (s_gR (pc := 1) rw_47_1 hG (by rcases hp with rfl | rfl <;> rfl) (v := (p + 4)) (by rcases hp with rfl | rfl <;> rfl) (to_in (pc := 4) rw_47_4 rfl (s_ial (pc := 5) rw_47_5 hG (by rcases hp with rfl | rfl <;> rfl) (n := 8) (by rcases hp with rfl | rfl <;> rfl) (by rcases hp with rfl | rfl <;> rfl) (A := f.toInt) rfl (by omega) (by omega) (lo := 0) (hi := 63) (by rcases hp with rfl | rfl <;> rfl) (by rcases hp with rfl | rfl <;> rfl) (fun v363 w_364 _ _ => ?_)))))))
            have z_365 := PLc_r g6 4 (by decide) (by decide) (k := f.toInt) (by omega) (by omega) w_364
            refine to_an (pc := 6) rw_47_6 rfl (s_gR (pc := 7) rw_47_7 hG (by rcases hp with rfl | rfl <;> rfl) (v := (p + 3)) (by rcases hp with rfl | rfl <;> rfl) (to_in (pc := 10) rw_47_10 rfl (s_ial (pc := 11) rw_47_11 hG (by rcases hp with rfl | rfl <;> rfl) (n := 8) (by rcases hp with rfl | rfl <;> rfl) (by rcases hp with rfl | rfl <;> rfl) (A := f.toInt) rfl (by omega) (by omega) (lo := 0) (hi := 59) (by rcases hp with rfl | rfl <;> rfl) (by rcases hp with rfl | rfl <;> rfl) (fun v366 w_367 _ _ => ?_))))
            have z_368 := PLc_r g6 3 (by decide) (by decide) (k := f.toInt) (by omega) (by omega) w_367
            refine s_sub (pc := 12) rw_47_12 (A := v363.toInt) (B := v366.toInt) rfl rfl (by omega) (fun v369 e370 => to_c (pc := 13) rw_47_13 (x := (1 : Int32)) rfl rfl (s_add (pc := 14) rw_47_14 (A := v369.toInt) (B := 1) rfl rfl (by omega) (fun v371 e372 => to_r0 (pc := 15) rw_47_15 (to_c (pc := 45) rw_42_45 (x := (1 : Int32)) rfl rfl (s_sub (pc := 46) rw_42_46 (A := v371.toInt) (B := 1) rfl rfl (by omega) (fun v373 e374 => to_go (pc := 47) rw_42_47 (to_is (pc := 51) rw_42_51 (ls2 := [.ref p, .ref 1, .int f, .long y3, .null, .int x5, .int v373, u7, u8]) rfl rfl (to_an (pc := 53) rw_42_53 rfl (to_c (pc := 54) rw_42_54 (x := (0 : Int32)) rfl rfl (to_i (pc := 55) rw_42_55 rfl (s_v (pc := 57) rw_42_57 (dp0 hd (by decide)) (ls0 := [.ref 1, .int (0 : Int32), .int v373]) rfl (Nat.le_of_ble_eq_true rfl) (Nat.le_of_ble_eq_true rfl) rfl (to_rc rfl rfl rfl (g_o hG rfl)) rfl ?_)))))))))))
            have k_375 : (0 : Int32).toInt = 0 := rfl
            refine E_88g hX (dp1 hd (by decide)) hG g5 (by omega) (l := (0 : Int32)) (m := v373) (t := t) (nn := nn) (a := (N.2.1 1 9).toInt) (fun r376 M386 hG378 F377 p_379 p_380 p_381 p_382 p_383 p_384 p_385 => ?_)
            have F387 := FR.c F0 F377 (fun a i z => show a = 1 ∧ 6 ≤ i ∧ i ≤ 11 ∨ a = p + 8 by have z : a = 1 ∧ (i = 10 ∨ i = 11) := z; omega)
            rcases (show r376.toInt = 0 ∨ r376.toInt = 1 by omega) with h388 | h388
            · skip
              have p_389 := p_382 (by omega)
              have p_390 := p_383 (by omega)
              have p_391 := p_384 (by omega)
              clear p_381 p_382 p_383 p_384 p_385
              have z_392 := x_val_b (t := t) (nn := nn) (a := (N.2.1 1 9).toInt)
              refine b_ine_f (pc := 60) rw_42_60 (A := r376.toInt) rfl (by omega) (to_c (pc := 63) rw_42_63 (x := (0 : Int32)) rfl rfl (s_r1 (pc := 64) rw_42_64 (A := 0) rfl (by decide) ?_))
              have j_393 := (CS_f (tg_34 F377) g5)
              have j_394 := (PLc_f (fun a i z => F_n F377 (show ¬ (a = 1 ∧ (i = 10 ∨ i = 11)) by omega) rfl) (F_nl F377 (show ¬ (p = 1 ∧ (4 = 10 ∨ 4 = 11)) by omega) rfl) g6)
              have j_395 := (CW_f (fun k hk9 => F_nl F377 (show ¬ ((p + 8) = 1 ∧ (k = 10 ∨ k = 11)) by omega) rfl) g7)
              exact h (0 : Int32) M386 hG378 F387 (by decide) (by decide) j_393 j_394 j_395 (fun _ => (if g9 : x_kind t nn (N.2.1 1 9).toInt = 3 then pinl (by have z9 := p_391.1 g9; omega) (by omega) (g8.symm.trans (x_rc_2 (by omega) g9 (by omega))) else pinl (by have z9 := p_391.2 g9; omega) (by omega) (g8.symm.trans (x_rc_1 (by omega) g9 (by omega) (by omega))))) (fun z => absurd z (by decide)) (by omega)
            · skip
              have p_396 := p_381 (by omega)
              have p_397 := p_385 (by omega)
              clear p_381 p_382 p_383 p_384 p_385
              have c_398 : M386.2.1 1 8 = (N.2.1 1 8) := (F_n F377 (show ¬ (1 = 1 ∧ (8 = 10 ∨ 8 = 11)) by decide) rfl)
              have z_399 := x_val_b (t := t) (nn := nn) (a := (N.2.1 1 9).toInt) (by omega)
              refine b_ine_t (pc := 60) rw_42_60 (A := r376.toInt) rfl (by omega) (to_cl (pc := 65) rw_42_65 rfl (x := (1 : Int64)) rfl (to_an (pc := 66) rw_42_66 rfl (s_gR (pc := 67) rw_42_67 hG378 (by rcases hp with rfl | rfl <;> rfl) (v := (p + 3)) (by rcases hp with rfl | rfl <;> rfl) (to_in (pc := 70) rw_42_70 rfl (s_ialk (pc := 71) rw_42_71 hG378 (by rcases hp with rfl | rfl <;> rfl) (n := 8) (by rcases hp with rfl | rfl <;> rfl) (by rcases hp with rfl | rfl <;> rfl) (A := f.toInt) rfl (by omega) (by omega) (v := v366) (F_n F377 (show ¬ ((p + 3) = 1 ∧ ((f.toInt).toNat = 10 ∨ (f.toInt).toNat = 11)) by omega) w_367) (to_an (pc := 72) rw_42_72 rfl (tt_gI (pc := 73) rw_42_73 (g_o hG378 rfl) (v := (N.2.1 1 8)) c_398 (s_add (pc := 76) rw_42_76 (A := v366.toInt) (B := (N.2.1 1 8).toInt) rfl rfl (by omega) (fun v402 e403 => to_2s (pc := 77) rw_42_77 (v := ((1 : Int64) <<< (v402.toInt64 &&& 63))) rfl (to_ls (pc := 78) rw_42_78 (ls2 := [.ref p, .ref 1, .int f, .long y3, .null, .int x5, .int v373, .long ((1 : Int64) <<< (v402.toInt64 &&& 63)), .null]) rfl rfl (to_ln (pc := 80) rw_42_80 rfl rfl rfl ?_)))))))))))
              refine to_l (pc := 81) rw_42_81 rfl rfl rfl (to_2l (pc := 83) rw_42_83 (v := (y3 &&& ((1 : Int64) <<< (v402.toInt64 &&& 63)))) rfl (to_cl (pc := 84) rw_42_84 rfl (x := (0 : Int64)) rfl (s_lcmpE (pc := 85) rw_42_85 (fun v404 e405 => ?_))))
              have b_406 := x_eq_b (x := (y3 &&& ((1 : Int64) <<< (v402.toInt64 &&& 63)))) (y := (0 : Int64))
              have z_407 := x_hit_e (v := v402) (bits := y3) (h := (x_row sg 3 f.toInt + x_val t nn (N.2.1 1 9).toInt))
              refine b_ieq (pc := 86) rw_42_86 (A := v404.toInt) rfl (fun h408 => ?_) (fun h408 => ?_)
              · refine to_ln (pc := 95) rw_42_95 rfl rfl rfl (to_l (pc := 96) rw_42_96 rfl rfl rfl (to_2l (pc := 98) rw_42_98 (v := (y3 ||| ((1 : Int64) <<< (v402.toInt64 &&& 63)))) rfl (to_lsn (pc := 99) rw_42_99 (ls2 := [.ref p, .ref 1, .int f, .long (y3 ||| ((1 : Int64) <<< (v402.toInt64 &&& 63))), .null, .int x5, .int v373, .long ((1 : Int64) <<< (v402.toInt64 &&& 63)), .null]) rfl rfl (s_inc (pc := 100) rw_42_100 (ls2 := fun v => [.ref p, .ref 1, .int f, .long (y3 ||| ((1 : Int64) <<< (v402.toInt64 &&& 63))), .null, .int v, .int v373, .long ((1 : Int64) <<< (v402.toInt64 &&& 63)), .null]) rfl rfl (fun _ => rfl) (A := x5.toInt) (B := 1) rfl rfl (by omega) (fun v409 e410 => to_an (pc := 103) rw_42_103 rfl (s_v (pc := 104) rw_42_104 (dp0 hd (by decide)) (ls0 := [.ref 1]) rfl (Nat.le_of_ble_eq_true rfl) (Nat.le_of_ble_eq_true rfl) rfl (to_rc rfl rfl rfl (g_o hG378 rfl)) rfl ?_))))))
                have j_411 := (CS_f (tg_34 F377) g5)
                have c_412 : M386.2.1 1 9 = (N.2.1 1 9) := (F_n F377 (show ¬ (1 = 1 ∧ (9 = 10 ∨ 9 = 11)) by decide) rfl)
                have t_413 : (M386.2.1 1 9).toInt = (N.2.1 1 9).toInt := congrArg Int32.toInt c_412
                refine E_83 hX (dp1 hd (by decide)) hG378 j_411 (by omega) (t := t) (nn := nn) (a := (N.2.1 1 9).toInt) (fun M418 hG415 F414 p_416 p_417 => ?_)
                have F419 := FR.c F387 F414 (fun a i z => show a = 1 ∧ 6 ≤ i ∧ i ≤ 11 ∨ a = p + 8 by have z : a = 1 ∧ 6 ≤ i ∧ i ≤ 9 := z; omega)
                refine to_go (pc := 107) rw_42_107 ?_
                have c_420 : M418.2.1 p 3 = (N.2.1 p 3) := (F_n F414 (show ¬ (p = 1 ∧ 6 ≤ 3 ∧ 3 ≤ 9) by omega) (F_n F377 (show ¬ (p = 1 ∧ (3 = 10 ∨ 3 = 11)) by omega) rfl))
                have t_421 : (M418.2.1 p 3).toInt = (N.2.1 p 3).toInt := congrArg Int32.toInt c_420
                have j_422 := (PLc_f (fun a i z => F_n F414 (show ¬ (a = 1 ∧ 6 ≤ i ∧ i ≤ 9) by omega) rfl) (F_nl F414 (show ¬ (p = 1 ∧ 6 ≤ 4 ∧ 4 ≤ 9) by omega) rfl) (PLc_f (fun a i z => F_n F377 (show ¬ (a = 1 ∧ (i = 10 ∨ i = 11)) by omega) rfl) (F_nl F377 (show ¬ (p = 1 ∧ (4 = 10 ∨ 4 = 11)) by omega) rfl) g6))
                have j_423 := (CW_f (fun k hk9 => F_nl F414 (show ¬ ((p + 8) = 1 ∧ 6 ≤ k ∧ k ≤ 9) by omega) rfl) (CW_f (fun k hk9 => F_nl F377 (show ¬ ((p + 8) = 1 ∧ (k = 10 ∨ k = 11)) by omega) rfl) g7))
                have c_424 : M418.2.1 1 10 = (M386.2.1 1 10) := (F_n F414 (show ¬ (1 = 1 ∧ 6 ≤ 10 ∧ 10 ≤ 9) by decide) rfl)
                have t_425 : (M418.2.1 1 10).toInt = (M386.2.1 1 10).toInt := congrArg Int32.toInt c_424
                have c_426 : M418.2.1 1 11 = (M386.2.1 1 11) := (F_n F414 (show ¬ (1 = 1 ∧ 6 ≤ 11 ∧ 11 ≤ 9) by decide) rfl)
                have t_427 : (M418.2.1 1 11).toInt = (M386.2.1 1 11).toInt := congrArg Int32.toInt c_426
                exact ih M418 (y3 ||| ((1 : Int64) <<< (v402.toInt64 &&& 63))) v409 (.int v373) (.long ((1 : Int64) <<< (v402.toInt64 &&& 63))) (.null) hG415 F419 (by omega) (by omega) (by omega) (by omega) p_416 j_422 j_423 (x_rc_s (fu := (6 - x5.toInt).toNat) (told := x5.toInt) (bits := y3) (b := (N.2.1 1 9).toInt) (by omega) (by omega) (by omega) (by omega) (by omega) (congrArg (fun z => y3 ||| z) (x_bit_e (v := v402) (by omega))) g8) (by omega) (by omega)
              · refine to_an (pc := 89) rw_42_89 rfl (to_c (pc := 90) rw_42_90 (x := (3 : Int32)) rfl rfl (s_v (pc := 91) rw_42_91 (dp0 hd (by decide)) (ls0 := [.ref 1, .int (3 : Int32)]) rfl (Nat.le_of_ble_eq_true rfl) (Nat.le_of_ble_eq_true rfl) rfl (to_rc rfl rfl rfl (g_o hG378 rfl)) rfl (to_an (pc := 0) rw_84_0 rfl (to_in (pc := 1) rw_84_1 rfl (s_pI (pc := 2) rw_84_2 hG378 rfl (fun M429 W428 => ?_))))))
                have hG430 := g_wf hG378 W428 rfl rfl (by decide)
                have F431 := FR.w F387 W428 (show 1 = 1 ∧ 6 ≤ 10 ∧ 10 ≤ 11 ∨ 1 = p + 8 by omega)
                refine to_an (pc := 5) rw_84_5 rfl (to_an (pc := 6) rw_84_6 rfl ?_)
                have c_432 : M429.2.1 1 9 = (N.2.1 1 9) := (W_n W428 (by decide) (F_n F377 (show ¬ (1 = 1 ∧ (9 = 10 ∨ 9 = 11)) by decide) rfl))
                refine tt_gI (pc := 7) rw_84_7 (g_o hG430 rfl) (v := (N.2.1 1 9)) c_432 (s_pI (pc := 10) rw_84_10 hG430 rfl (fun M434 W433 => ?_))
                have hG435 := g_wf hG430 W433 rfl rfl (by decide)
                have F436 := FR.w F431 W433 (show 1 = 1 ∧ 6 ≤ 11 ∧ 11 ≤ 11 ∨ 1 = p + 8 by omega)
                refine to_c (pc := 13) rw_84_13 (x := (0 : Int32)) rfl rfl (s_r1 (pc := 14) rw_84_14 (A := 0) rfl (by decide) (s_r1 (pc := 94) rw_42_94 (A := 0) rfl (by decide) ?_))
                have j_437 := (CS_f (fun a i z => W_n W433 (tg_32 a i z) rfl) (CS_f (fun a i z => W_n W428 (tg_33 a i z) rfl) (CS_f (tg_34 F377) g5)))
                have j_438 := (PLc_f (fun a i z => W_n W433 (by /-r1,11-/ omega) rfl) (W_j W433 rfl) (PLc_f (fun a i z => W_n W428 (by /-r1,10-/ omega) rfl) (W_j W428 rfl) (PLc_f (fun a i z => F_n F377 (show ¬ (a = 1 ∧ (i = 10 ∨ i = 11)) by omega) rfl) (F_nl F377 (show ¬ (p = 1 ∧ (4 = 10 ∨ 4 = 11)) by omega) rfl) g6)))
                have j_439 := (CW_f (fun k hk9 => W_j W433 rfl) (CW_f (fun k hk9 => W_j W428 rfl) (CW_f (fun k hk9 => F_nl F377 (show ¬ ((p + 8) = 1 ∧ (k = 10 ∨ k = 11)) by omega) rfl) g7)))
                have c_440 : M434.2.1 1 10 = (3 : Int32) := (W_n W433 (by decide) (W_e W428))
                have k_441 : (3 : Int32).toInt = 3 := rfl
                have t_442 : (M434.2.1 1 10).toInt = (3 : Int32).toInt := congrArg Int32.toInt c_440
                have c_443 : M434.2.1 1 11 = (N.2.1 1 9) := (W_e W433)
                have t_444 : (M434.2.1 1 11).toInt = (N.2.1 1 9).toInt := congrArg Int32.toInt c_443
                exact h (0 : Int32) M434 hG435 F436 (by decide) (by decide) j_437 j_438 j_439 (fun _ => pinl (by omega) (by omega) (g8.symm.trans (x_rc_3 (by omega) (by omega) (by omega) (by omega)))) (fun z => absurd z (by decide)) (by omega)
set_option maxRecDepth 4000 in
set_option maxHeartbeats 0 in
theorem E_42 {X : mm_X} {d : Nat} {M : mm_M} {Q : Option Value → mm_M → Prop} {p : Nat} {f : Int32} {t : Nat → Int} {nn : Int} {a : Int} {sg : x_S} {k : x_K} {nm : Int} (hX : g_X X) (hd : 2 ≤ d) (hG : g_G M) (hp : p = 49 ∨ p = 58) (q1 : CS M t nn) (q2 : (M.2.1 1 9).toInt = a) (q3 : PLc M p sg) (q4 : CW M p sg) (q5 : 0 ≤ f.toInt) (q6 : f.toInt ≤ 7) (q7 : f.toInt < sg.2.1) (q8 : x_row sg 2 f.toInt = 3) (q9 : (M.2.1 p 3).toInt ≤ 11) (h : ∀ (r : Int32) (M1 : mm_M), g_G M1 → FR (md_c42e p) M M1 → (0 ≤ r.toInt) → (r.toInt ≤ 1) → CS M1 t nn → PLc M1 p sg → CW M1 p sg → ((r.toInt = 0 → x_rc t nn sg f.toInt nm k 6 0 0 a = (Sum.inl ((M1.2.1 1 10).toInt, (M1.2.1 1 11).toInt) : x_Res))) → ((r.toInt = 1 → x_rc t nn sg f.toInt nm k 6 0 0 a = k (M1.2.1 1 9).toInt (x_pushw sg nm f.toInt (M1.2.2.1 (p + 8) sg.2.2.1.toNat).toInt) ∨ x_rc t nn sg f.toInt nm k 6 0 0 a = Sum.inl (1, (M1.2.1 1 9).toInt) ∧ ¬ (x_kind t nn (M1.2.1 1 9).toInt = 4 ∧ x_val t nn (M1.2.1 1 9).toInt = 59))) → (r.toInt = 1 → (M1.2.1 1 10).toInt = (M.2.1 1 10).toInt ∧ (M1.2.1 1 11).toInt = (M.2.1 1 11).toInt) → Q (some (.int r)) M1) : mm_T X d 42 0 [.ref p, .ref 1, .int f, .null, .null, .null, .null, .null, .null] [] M Q := by
  have F0 : FR (md_c42e p) M M := FR.rf
  have b_445 := g_b hG (a := p) (i := 3) (lo := 0) (hi := 12) (by rcases hp with rfl | rfl <;> rfl) (by rcases hp with rfl | rfl <;> rfl)
  have z_446 := q3.2.1
  have z_447 := q3.2.2.1
  have z_448 := q3.2.2.2.1
  have z_449 := q3.1
  have z_450 := z_449.1
  have z_451 := z_449.2.1
  have z_452 := z_449.2.2.1
  have z_453 := z_449.2.2.2.1
  have z_454 := z_449.2.2.2.2.1
  have z_455 := z_449.2.2.2.2.2.1
  have b_456 := g_b hG (a := p) (i := 2) (lo := 0) (hi := 8) (by rcases hp with rfl | rfl <;> rfl) (by rcases hp with rfl | rfl <;> rfl)
  have z_457 := q3.1.2.2.2.2.2.2.2 f.toInt (by omega) (by omega)
  refine to_cl (pc := 0) rw_42_0 rfl (x := (0 : Int64)) rfl (to_lsn (pc := 1) rw_42_1 (ls2 := [.ref p, .ref 1, .int f, .long (0 : Int64), .null, .null, .null, .null, .null]) rfl rfl (to_c (pc := 2) rw_42_2 (x := (0 : Int32)) rfl rfl (to_is (pc := 3) rw_42_3 (ls2 := [.ref p, .ref 1, .int f, .long (0 : Int64), .null, .int (0 : Int32), .null, .null, .null]) rfl rfl ?_)))
  have k_458 : (0 : Int32).toInt = 0 := rfl
  exact (U_42_0 (p := p) (f := f) (t := t) (nn := nn) (a := a) (sg := sg) (k := k) (nm := nm) hX hd hp q1 q2 q3 q4 q5 q6 q7 q8 q9 h ((10 - (0 : Int32).toInt).toNat + 1)) M (0 : Int64) (0 : Int32) (.null) (.null) (.null) hG F0 (by omega) (by omega) (by omega) (by omega) q1 q3 q4 (by rw [show (M.2.1 1 9).toInt = a by omega]; rfl) (by omega) (by omega)
set_option maxRecDepth 4000 in
set_option maxHeartbeats 0 in
theorem E_41 {X : mm_X} {d : Nat} {M : mm_M} {Q : Option Value → mm_M → Prop} {p : Nat} {t : Nat → Int} {nn : Int} {a : Int} {sg : x_S} {k : x_K} (hX : g_X X) (hd : 3 ≤ d) (hG : g_G M) (hp : p = 49 ∨ p = 58) (q1 : CS M t nn) (q2 : (M.2.1 1 9).toInt = a) (q3 : PLc M p sg) (q4 : CW M p sg) (h : ∀ (r : Int32) (M1 : mm_M), g_G M1 → FR (md_w41 p) M M1 → (0 ≤ r.toInt) → (r.toInt ≤ 1) → CS M1 t nn → ((r.toInt = 0 → x_word t nn sg a (x_ns t nn a) k = (Sum.inl ((M1.2.1 1 10).toInt, (M1.2.1 1 11).toInt) : x_Res))) → ((r.toInt = 1 → (∃ s2 : x_S, x_word t nn sg a (x_ns t nn a) k = k (M1.2.1 1 9).toInt s2 ∧ PLc2 M1 p s2 ∧ s2.2.1 + s2.2.2.1 = sg.2.1 + sg.2.2.1 + 1) ∨ x_word t nn sg a (x_ns t nn a) k = Sum.inl (1, (M1.2.1 1 9).toInt) ∧ ¬ (x_kind t nn (M1.2.1 1 9).toInt = 4 ∧ x_val t nn (M1.2.1 1 9).toInt = 59))) → (r.toInt = 1 → (M1.2.1 1 10).toInt = (M.2.1 1 10).toInt ∧ (M1.2.1 1 11).toInt = (M.2.1 1 11).toInt) → Q (some (.int r)) M1) : mm_T X d 41 0 [.ref p, .ref 1, .null] [] M Q := by
  have F0 : FR (md_w41 p) M M := FR.rf
  have z_1 := q3.2.1
  have z_2 := q3.2.2.1
  have z_3 := q3.2.2.2.1
  have z_4 := q3.1
  have z_5 := z_4.1
  have z_6 := z_4.2.1
  have z_7 := z_4.2.2.1
  have z_8 := z_4.2.2.2.1
  have z_9 := z_4.2.2.2.2.1
  have z_10 := z_4.2.2.2.2.2.1
  have b_11 := g_b hG (a := p) (i := 0) (lo := 10) (hi := 60) (by rcases hp with rfl | rfl <;> rfl) (by rcases hp with rfl | rfl <;> rfl)
  have b_12 := g_b hG (a := p) (i := 2) (lo := 0) (hi := 8) (by rcases hp with rfl | rfl <;> rfl) (by rcases hp with rfl | rfl <;> rfl)
  have b_13 := g_b hG (a := p) (i := 3) (lo := 0) (hi := 12) (by rcases hp with rfl | rfl <;> rfl) (by rcases hp with rfl | rfl <;> rfl)
  have z_14 := x_fn_b (s := sg) (v := x_val t nn (x_ns t nn a)) q3.1
  refine to_an (pc := 0) rw_41_0 rfl (tt_gI (pc := 1) rw_41_1 (g_o hG (by rcases hp with rfl | rfl <;> rfl)) (v := (M.2.1 p 3)) rfl (to_c (pc := 4) rw_41_4 (x := (12 : Int32)) rfl rfl (b_clt (pc := 6) rw_41_6 (A := (M.2.1 p 3).toInt) (B := 12) rfl rfl (fun h15 => ?_) (fun h15 => ?_))))
  · refine to_an (pc := 15) rw_41_15 rfl (s_v (pc := 16) rw_41_16 (dp0 hd (by decide)) (ls0 := [.ref 1]) rfl (Nat.le_of_ble_eq_true rfl) (Nat.le_of_ble_eq_true rfl) rfl (to_rc rfl rfl rfl (g_o hG rfl)) rfl (E_83 hX (dp1 hd (by decide)) hG q1 (by omega) (t := t) (nn := nn) (a := a) (fun M20 hG17 F16 p_18 p_19 => ?_)))
    have F21 := FR.c F0 F16 (fun a i z => show a = 1 ∧ 6 ≤ i ∧ i ≤ 11 ∨ a = p ∧ i = 3 ∨ p + 6 ≤ a ∧ a ≤ p + 8 by have z : a = 1 ∧ 6 ≤ i ∧ i ≤ 9 := z; omega)
    refine to_an (pc := 19) rw_41_19 rfl ?_
    have c_22 := CS_u p_18 (a := (x_ns t nn a)) (by omega)
    unfold x_C at c_22
    refine tt_gI (pc := 20) rw_41_20 (g_o hG17 rfl) (v := (M20.2.1 1 7)) rfl (to_c (pc := 23) rw_41_23 (x := (3 : Int32)) rfl rfl (b_ceq (pc := 24) rw_41_24 (A := (M20.2.1 1 7).toInt) (B := 3) rfl rfl (fun h23 => ?_) (fun h23 => ?_)))
    · refine to_an (pc := 33) rw_41_33 rfl (to_an (pc := 34) rw_41_34 rfl (tt_gI (pc := 35) rw_41_35 (g_o hG17 rfl) (v := (M20.2.1 1 8)) rfl (s_v (pc := 38) rw_41_38 (dp0 hd (by decide)) (ls0 := [.ref p, .int (M20.2.1 1 8)]) rfl (Nat.le_of_ble_eq_true rfl) (Nat.le_of_ble_eq_true rfl) rfl (to_rc rfl rfl rfl (g_o hG17 (by rcases hp with rfl | rfl <;> rfl))) rfl (to_an (pc := 0) rw_52_0 rfl (s_gR (pc := 1) rw_52_1 hG17 (by rcases hp with rfl | rfl <;> rfl) (v := (p + 1)) (by rcases hp with rfl | rfl <;> rfl) (to_an (pc := 4) rw_52_4 rfl ?_))))))
      have c_24 : M20.2.1 p 2 = (M.2.1 p 2) := (F_n F16 (show ¬ (p = 1 ∧ 6 ≤ 2 ∧ 2 ≤ 9) by omega) rfl)
      refine tt_gI (pc := 5) rw_52_5 (g_o hG17 (by rcases hp with rfl | rfl <;> rfl)) (v := (M.2.1 p 2)) c_24 (to_in (pc := 8) rw_52_8 rfl (s_s (pc := 9) rw_52_9 (dp1 hd (by decide)) (ls0 := [.ref (p + 1), .int (M.2.1 p 2), .int (M20.2.1 1 8), .null]) rfl (Nat.le_of_ble_eq_true rfl) (Nat.le_of_ble_eq_true rfl) rfl (to_rcs rfl rfl) rfl ?_))
      have j_25 := (PLc_f (fun a i z => F_n F16 (show ¬ (a = 1 ∧ 6 ≤ i ∧ i ≤ 9) by omega) rfl) (F_nl F16 (show ¬ (p = 1 ∧ 6 ≤ 4 ∧ 4 ≤ 9) by omega) rfl) q3)
      refine E_54f hX (dp2 hd (by decide)) hG17 (by omega) (by omega) (by omega) (f := (p + 1)) (s := (M.2.1 p 2)) (x := (M20.2.1 1 8)) (fun r26 M32 hG28 F27 p_29 p_30 p_31 => ?_)
      have F33 := FR.c F21 F27 (fun a i z => show a = 1 ∧ 6 ≤ i ∧ i ≤ 11 ∨ a = p ∧ i = 3 ∨ p + 6 ≤ a ∧ a ≤ p + 8 by have z : a < 0 := z; omega)
      have z_34 := PLc_n (v := (M20.2.1 1 8).toInt) j_25 (n := (M.2.1 p 2).toInt) (by omega)
      have z_35 := x_fn_v (s := sg) (r := 1) (v := (M20.2.1 1 8).toInt) (w := x_val t nn (x_ns t nn a))
      refine to_r0 (pc := 12) rw_52_12 (to_isn (pc := 41) rw_41_41 (ls2 := [.ref p, .ref 1, .int r26]) rfl rfl (to_an (pc := 42) rw_41_42 rfl (to_in (pc := 43) rw_41_43 rfl (s_v (pc := 44) rw_41_44 (dp0 hd (by decide)) (ls0 := [.ref p, .int r26]) rfl (Nat.le_of_ble_eq_true rfl) (Nat.le_of_ble_eq_true rfl) rfl (to_rc rfl rfl rfl (g_o hG28 (by rcases hp with rfl | rfl <;> rfl))) rfl (to_in (pc := 0) rw_43_0 rfl (b_ilt (pc := 1) rw_43_1 (A := r26.toInt) rfl (fun h36 => ?_) (fun h36 => ?_)))))))
      · refine to_c (pc := 16) rw_43_16 (x := (0 : Int32)) rfl rfl (s_r1 (pc := 17) rw_43_17 (A := 0) rfl (by decide) (b_ieq_t (pc := 47) rw_41_47 (A := 0) rfl (by decide) (to_an (pc := 58) rw_41_58 rfl (to_c (pc := 59) rw_41_59 (x := (4 : Int32)) rfl rfl (s_v (pc := 60) rw_41_60 (dp0 hd (by decide)) (ls0 := [.ref 1, .int (4 : Int32)]) rfl (Nat.le_of_ble_eq_true rfl) (Nat.le_of_ble_eq_true rfl) rfl (to_rc rfl rfl rfl (g_o hG28 rfl)) rfl (to_an (pc := 0) rw_84_0 rfl (to_in (pc := 1) rw_84_1 rfl (s_pI (pc := 2) rw_84_2 hG28 rfl (fun M38 W37 => ?_)))))))))
        have hG39 := g_wf hG28 W37 rfl rfl (by decide)
        have F40 := FR.w F33 W37 (show 1 = 1 ∧ 6 ≤ 10 ∧ 10 ≤ 11 ∨ 1 = p ∧ 10 = 3 ∨ p + 6 ≤ 1 ∧ 1 ≤ p + 8 by omega)
        refine to_an (pc := 5) rw_84_5 rfl (to_an (pc := 6) rw_84_6 rfl ?_)
        have c_41 : M38.2.1 1 9 = (M20.2.1 1 9) := (W_n W37 (by decide) (F_n F27 (show ¬ (1 < 0) by decide) rfl))
        refine tt_gI (pc := 7) rw_84_7 (g_o hG39 rfl) (v := (M20.2.1 1 9)) c_41 (s_pI (pc := 10) rw_84_10 hG39 rfl (fun M43 W42 => ?_))
        have hG44 := g_wf hG39 W42 rfl rfl (by decide)
        have F45 := FR.w F40 W42 (show 1 = 1 ∧ 6 ≤ 11 ∧ 11 ≤ 11 ∨ 1 = p ∧ 11 = 3 ∨ p + 6 ≤ 1 ∧ 1 ≤ p + 8 by omega)
        refine to_c (pc := 13) rw_84_13 (x := (0 : Int32)) rfl rfl (s_r1 (pc := 14) rw_84_14 (A := 0) rfl (by decide) (s_r1 (pc := 63) rw_41_63 (A := 0) rfl (by decide) ?_))
        have k_46 : (0 : Int32).toInt = 0 := rfl
        have j_47 := (CS_f (fun a i z => W_n W42 (tg_32 a i z) rfl) (CS_f (fun a i z => W_n W37 (tg_33 a i z) rfl) (CS_f (tg_28 F27) p_18)))
        have c_48 : M43.2.1 1 10 = (4 : Int32) := (W_n W42 (by decide) (W_e W37))
        have k_49 : (4 : Int32).toInt = 4 := rfl
        have t_50 : (M43.2.1 1 10).toInt = (4 : Int32).toInt := congrArg Int32.toInt c_48
        have c_51 : M43.2.1 1 11 = (M20.2.1 1 9) := (W_e W42)
        have t_52 : (M43.2.1 1 11).toInt = (M20.2.1 1 9).toInt := congrArg Int32.toInt c_51
        exact h (0 : Int32) M43 hG44 F45 (by decide) (by decide) j_47 (fun _ => pinl (by omega) (by omega) (xw_14 (by omega) (by omega) (by omega))) (fun z => absurd z (by decide)) (by omega)
      · refine to_in (pc := 4) rw_43_4 rfl (to_an (pc := 5) rw_43_5 rfl ?_)
        have c_53 : M32.2.1 p 2 = (M.2.1 p 2) := (F_n F27 (show ¬ (p < 0) by omega) c_24)
        refine tt_gI (pc := 6) rw_43_6 (g_o hG28 (by rcases hp with rfl | rfl <;> rfl)) (v := (M.2.1 p 2)) c_53 (b_cge (pc := 9) rw_43_9 (A := r26.toInt) (B := (M.2.1 p 2).toInt) rfl rfl (fun h54 => ?_) (fun h54 => ?_))
        · refine to_c (pc := 16) rw_43_16 (x := (0 : Int32)) rfl rfl (s_r1 (pc := 17) rw_43_17 (A := 0) rfl (by decide) (b_ieq_t (pc := 47) rw_41_47 (A := 0) rfl (by decide) (to_an (pc := 58) rw_41_58 rfl (to_c (pc := 59) rw_41_59 (x := (4 : Int32)) rfl rfl (s_v (pc := 60) rw_41_60 (dp0 hd (by decide)) (ls0 := [.ref 1, .int (4 : Int32)]) rfl (Nat.le_of_ble_eq_true rfl) (Nat.le_of_ble_eq_true rfl) rfl (to_rc rfl rfl rfl (g_o hG28 rfl)) rfl (to_an (pc := 0) rw_84_0 rfl (to_in (pc := 1) rw_84_1 rfl (s_pI (pc := 2) rw_84_2 hG28 rfl (fun M56 W55 => ?_)))))))))
          have hG57 := g_wf hG28 W55 rfl rfl (by decide)
          have F58 := FR.w F33 W55 (show 1 = 1 ∧ 6 ≤ 10 ∧ 10 ≤ 11 ∨ 1 = p ∧ 10 = 3 ∨ p + 6 ≤ 1 ∧ 1 ≤ p + 8 by omega)
          refine to_an (pc := 5) rw_84_5 rfl (to_an (pc := 6) rw_84_6 rfl ?_)
          have c_59 : M56.2.1 1 9 = (M20.2.1 1 9) := (W_n W55 (by decide) (F_n F27 (show ¬ (1 < 0) by decide) rfl))
          refine tt_gI (pc := 7) rw_84_7 (g_o hG57 rfl) (v := (M20.2.1 1 9)) c_59 (s_pI (pc := 10) rw_84_10 hG57 rfl (fun M61 W60 => ?_))
          have hG62 := g_wf hG57 W60 rfl rfl (by decide)
          have F63 := FR.w F58 W60 (show 1 = 1 ∧ 6 ≤ 11 ∧ 11 ≤ 11 ∨ 1 = p ∧ 11 = 3 ∨ p + 6 ≤ 1 ∧ 1 ≤ p + 8 by omega)
          refine to_c (pc := 13) rw_84_13 (x := (0 : Int32)) rfl rfl (s_r1 (pc := 14) rw_84_14 (A := 0) rfl (by decide) (s_r1 (pc := 63) rw_41_63 (A := 0) rfl (by decide) ?_))
          have k_64 : (0 : Int32).toInt = 0 := rfl
          have j_65 := (CS_f (fun a i z => W_n W60 (tg_32 a i z) rfl) (CS_f (fun a i z => W_n W55 (tg_33 a i z) rfl) (CS_f (tg_28 F27) p_18)))
          have c_66 : M61.2.1 1 10 = (4 : Int32) := (W_n W60 (by decide) (W_e W55))
          have k_67 : (4 : Int32).toInt = 4 := rfl
          have t_68 : (M61.2.1 1 10).toInt = (4 : Int32).toInt := congrArg Int32.toInt c_66
          have c_69 : M61.2.1 1 11 = (M20.2.1 1 9) := (W_e W60)
          have t_70 : (M61.2.1 1 11).toInt = (M20.2.1 1 9).toInt := congrArg Int32.toInt c_69
          exact h (0 : Int32) M61 hG62 F63 (by decide) (by decide) j_65 (fun _ => pinl (by omega) (by omega) (xw_14 (by omega) (by omega) (by omega))) (fun z => absurd z (by decide)) (by omega)
        · refine to_c (pc := 12) rw_43_12 (x := (1 : Int32)) rfl rfl (to_go (pc := 13) rw_43_13 (s_r1 (pc := 17) rw_43_17 (A := 1) rfl (by decide) (b_ieq_f (pc := 47) rw_41_47 (A := 1) rfl (by decide) (to_an (pc := 50) rw_41_50 rfl (to_in (pc := 51) rw_41_51 rfl (s_v (pc := 52) rw_41_52 (dp0 hd (by decide)) (ls0 := [.ref p, .int r26]) rfl (Nat.le_of_ble_eq_true rfl) (Nat.le_of_ble_eq_true rfl) rfl (to_rc rfl rfl rfl (g_o hG28 (by rcases hp with rfl | rfl <;> rfl))) rfl (to_an (pc := 0) rw_45_0 rfl (s_gR (pc := 1) rw_45_1 hG28 (by rcases hp with rfl | rfl <;> rfl) (v := (p + 2)) (by rcases hp with rfl | rfl <;> rfl) (to_in (pc := 4) rw_45_4 rfl (s_ial (pc := 5) rw_45_5 hG28 (by rcases hp with rfl | rfl <;> rfl) (n := 8) (by rcases hp with rfl | rfl <;> rfl) (by rcases hp with rfl | rfl <;> rfl) (A := r26.toInt) rfl (by omega) (by omega) (lo := 0) (hi := 3) (by rcases hp with rfl | rfl <;> rfl) (by rcases hp with rfl | rfl <;> rfl) (fun v71 w_72 _ _ => ?_)))))))))))
          have j_73 := (PLc_f (fun a i z => F_n F27 (show ¬ (a < 0) by omega) rfl) (F_nl F27 (show ¬ (p < 0) by omega) rfl) j_25)
          have z_74 := PLc_r j_73 2 (by decide) (by decide) (k := r26.toInt) (by omega) (by omega) w_72
          have z_75 := x_row_v (s := sg) (r := 2) (x := r26.toInt) (y := x_fn sg 1 (x_val t nn (x_ns t nn a)))
          refine to_c (pc := 6) rw_45_6 (x := (3 : Int32)) rfl rfl (b_cne (pc := 7) rw_45_7 (A := v71.toInt) (B := 3) rfl rfl (fun h76 => ?_) (fun h76 => ?_))
          · refine to_c (pc := 14) rw_45_14 (x := (0 : Int32)) rfl rfl (s_r1 (pc := 15) rw_45_15 (A := 0) rfl (by decide) (b_ine_f (pc := 55) rw_41_55 (A := 0) rfl (by decide) (to_an (pc := 58) rw_41_58 rfl (to_c (pc := 59) rw_41_59 (x := (4 : Int32)) rfl rfl (s_v (pc := 60) rw_41_60 (dp0 hd (by decide)) (ls0 := [.ref 1, .int (4 : Int32)]) rfl (Nat.le_of_ble_eq_true rfl) (Nat.le_of_ble_eq_true rfl) rfl (to_rc rfl rfl rfl (g_o hG28 rfl)) rfl (to_an (pc := 0) rw_84_0 rfl (to_in (pc := 1) rw_84_1 rfl (s_pI (pc := 2) rw_84_2 hG28 rfl (fun M78 W77 => ?_)))))))))
            have hG79 := g_wf hG28 W77 rfl rfl (by decide)
            have F80 := FR.w F33 W77 (show 1 = 1 ∧ 6 ≤ 10 ∧ 10 ≤ 11 ∨ 1 = p ∧ 10 = 3 ∨ p + 6 ≤ 1 ∧ 1 ≤ p + 8 by omega)
            refine to_an (pc := 5) rw_84_5 rfl (to_an (pc := 6) rw_84_6 rfl ?_)
            have c_81 : M78.2.1 1 9 = (M20.2.1 1 9) := (W_n W77 (by decide) (F_n F27 (show ¬ (1 < 0) by decide) rfl))
            refine tt_gI (pc := 7) rw_84_7 (g_o hG79 rfl) (v := (M20.2.1 1 9)) c_81 (s_pI (pc := 10) rw_84_10 hG79 rfl (fun M83 W82 => ?_))
            have hG84 := g_wf hG79 W82 rfl rfl (by decide)
            have F85 := FR.w F80 W82 (show 1 = 1 ∧ 6 ≤ 11 ∧ 11 ≤ 11 ∨ 1 = p ∧ 11 = 3 ∨ p + 6 ≤ 1 ∧ 1 ≤ p + 8 by omega)
            refine to_c (pc := 13) rw_84_13 (x := (0 : Int32)) rfl rfl (s_r1 (pc := 14) rw_84_14 (A := 0) rfl (by decide) (s_r1 (pc := 63) rw_41_63 (A := 0) rfl (by decide) ?_))
            have k_86 : (0 : Int32).toInt = 0 := rfl
            have j_87 := (CS_f (fun a i z => W_n W82 (tg_32 a i z) rfl) (CS_f (fun a i z => W_n W77 (tg_33 a i z) rfl) (CS_f (tg_28 F27) p_18)))
            have c_88 : M83.2.1 1 10 = (4 : Int32) := (W_n W82 (by decide) (W_e W77))
            have k_89 : (4 : Int32).toInt = 4 := rfl
            have t_90 : (M83.2.1 1 10).toInt = (4 : Int32).toInt := congrArg Int32.toInt c_88
            have c_91 : M83.2.1 1 11 = (M20.2.1 1 9) := (W_e W82)
            have t_92 : (M83.2.1 1 11).toInt = (M20.2.1 1 9).toInt := congrArg Int32.toInt c_91
            exact h (0 : Int32) M83 hG84 F85 (by decide) (by decide) j_87 (fun _ => pinl (by omega) (by omega) (xw_14 (by omega) (by omega) (by omega))) (fun z => absurd z (by decide)) (by omega)
          · refine to_c (pc := 10) rw_45_10 (x := (1 : Int32)) rfl rfl (to_go (pc := 11) rw_45_11 (s_r1 (pc := 15) rw_45_15 (A := 1) rfl (by decide) (b_ine_t (pc := 55) rw_41_55 (A := 1) rfl (by decide) (to_an (pc := 64) rw_41_64 rfl (s_v (pc := 65) rw_41_65 (dp0 hd (by decide)) (ls0 := [.ref 1]) rfl (Nat.le_of_ble_eq_true rfl) (Nat.le_of_ble_eq_true rfl) rfl (to_rc rfl rfl rfl (g_o hG28 rfl)) rfl ?_)))))
            have j_93 := (CS_f (tg_28 F27) p_18)
            have c_94 : M32.2.1 1 9 = (M20.2.1 1 9) := (F_n F27 (show ¬ (1 < 0) by decide) rfl)
            have t_95 : (M32.2.1 1 9).toInt = (M20.2.1 1 9).toInt := congrArg Int32.toInt c_94
            refine E_83 hX (dp1 hd (by decide)) hG28 j_93 (by omega) (t := t) (nn := nn) (a := (x_ns t nn a)) (fun M100 hG97 F96 p_98 p_99 => ?_)
            have F101 := FR.c F33 F96 (fun a i z => show a = 1 ∧ 6 ≤ i ∧ i ≤ 11 ∨ a = p ∧ i = 3 ∨ p + 6 ≤ a ∧ a ≤ p + 8 by have z : a = 1 ∧ 6 ≤ i ∧ i ≤ 9 := z; omega)
            refine to_an (pc := 68) rw_41_68 rfl (to_an (pc := 69) rw_41_69 rfl (s_v (pc := 70) rw_41_70 (dp0 hd (by decide)) (ls0 := [.ref p, .ref 1]) rfl (Nat.le_of_ble_eq_true rfl) (Nat.le_of_ble_eq_true rfl) rfl (to_rc rfl rfl rfl (g_o hG97 (by rcases hp with rfl | rfl <;> rfl))) rfl ?_))
            have c_102 : M100.2.1 1 10 = (M.2.1 1 10) := (F_n F96 (show ¬ (1 = 1 ∧ 6 ≤ 10 ∧ 10 ≤ 9) by decide) (F_n F27 (show ¬ (1 < 0) by decide) (F_n F16 (show ¬ (1 = 1 ∧ 6 ≤ 10 ∧ 10 ≤ 9) by decide) rfl)))
            have t_103 : (M100.2.1 1 10).toInt = (M.2.1 1 10).toInt := congrArg Int32.toInt c_102
            have c_104 : M100.2.1 1 11 = (M.2.1 1 11) := (F_n F96 (show ¬ (1 = 1 ∧ 6 ≤ 11 ∧ 11 ≤ 9) by decide) (F_n F27 (show ¬ (1 < 0) by decide) (F_n F16 (show ¬ (1 = 1 ∧ 6 ≤ 11 ∧ 11 ≤ 9) by decide) rfl)))
            have t_105 : (M100.2.1 1 11).toInt = (M.2.1 1 11).toInt := congrArg Int32.toInt c_104
            have j_106 := (PLc_f (fun a i z => F_n F96 (show ¬ (a = 1 ∧ 6 ≤ i ∧ i ≤ 9) by omega) rfl) (F_nl F96 (show ¬ (p = 1 ∧ 6 ≤ 4 ∧ 4 ≤ 9) by omega) rfl) j_73)
            refine E_34 hX (dp1 hd (by decide)) hG97 hp p_98 (by omega) j_106 (p := p) (t := t) (nn := nn) (a := (x_ns t nn (x_ns t nn a))) (sg := sg) (fun r107 M118 hG109 F108 p_110 p_111 p_112 p_113 p_114 p_115 p_116 p_117 => ?_)
            have F119 := FR.c F101 F108 (fun a i z => show a = 1 ∧ 6 ≤ i ∧ i ≤ 11 ∨ a = p ∧ i = 3 ∨ p + 6 ≤ a ∧ a ≤ p + 8 by have z : a = 1 ∧ (i = 10 ∨ i = 11) := z; omega)
            rcases (show r107.toInt = 0 ∨ r107.toInt = 1 by omega) with h120 | h120
            · skip
              have p_121 := p_114 (by omega)
              have p_122 := p_115 (by omega)
              have p_123 := p_116 (by omega)
              clear p_112 p_113 p_114 p_115 p_116 p_117
              refine b_ine_f (pc := 73) rw_41_73 (A := r107.toInt) rfl (by omega) (to_c (pc := 76) rw_41_76 (x := (0 : Int32)) rfl rfl (s_r1 (pc := 77) rw_41_77 (A := 0) rfl (by decide) ?_))
              have k_124 : (0 : Int32).toInt = 0 := rfl
              have j_125 := (CS_f (tg_34 F108) p_98)
              exact h (0 : Int32) M118 hG109 F119 (by decide) (by decide) j_125 (fun _ => (if g9 : x_kind t nn (x_ns t nn (x_ns t nn a)) = 2 then pinl (by have z9 := p_123.1 g9; omega) (by omega) (xw_23 (by omega) g9 (by omega)) else pinl (by have z9 := p_123.2 g9; omega) (by omega) (xw_21 (by omega) g9))) (fun z => absurd z (by decide)) (by omega)
            · skip
              have p_126 := p_112 (by omega)
              have p_127 := p_113 (by omega)
              have p_128 := p_117 (by omega)
              clear p_112 p_113 p_114 p_115 p_116 p_117
              refine b_ine_t (pc := 73) rw_41_73 (A := r107.toInt) rfl (by omega) (to_an (pc := 78) rw_41_78 rfl (s_gR (pc := 79) rw_41_79 hG109 (by rcases hp with rfl | rfl <;> rfl) (v := (p + 6)) (by rcases hp with rfl | rfl <;> rfl) (to_an (pc := 82) rw_41_82 rfl ?_)))
              have c_129 : M118.2.1 p 3 = (M.2.1 p 3) := (F_n F108 (show ¬ (p = 1 ∧ (3 = 10 ∨ 3 = 11)) by omega) (F_n F96 (show ¬ (p = 1 ∧ 6 ≤ 3 ∧ 3 ≤ 9) by omega) (F_n F27 (show ¬ (p < 0) by omega) (F_n F16 (show ¬ (p = 1 ∧ 6 ≤ 3 ∧ 3 ≤ 9) by omega) rfl))))
              refine tt_gI (pc := 83) rw_41_83 (g_o hG109 (by rcases hp with rfl | rfl <;> rfl)) (v := (M.2.1 p 3)) c_129 (to_an (pc := 86) rw_41_86 rfl ?_)
              have c_130 : M118.2.1 1 8 = (M100.2.1 1 8) := (F_n F108 (show ¬ (1 = 1 ∧ (8 = 10 ∨ 8 = 11)) by decide) rfl)
              refine tt_gI (pc := 87) rw_41_87 (g_o hG109 rfl) (v := (M100.2.1 1 8)) c_130 (s_ias (pc := 90) rw_41_90 hG109 (by rcases hp with rfl | rfl <;> rfl) (n := 12) (by rcases hp with rfl | rfl <;> rfl) (A := (M.2.1 p 3).toInt) rfl (by omega) (by omega) (fun M132 W131 => ?_))
              have hG133 := g_wf hG109 W131 (by rcases hp with rfl | rfl <;> rfl) (by rcases hp with rfl | rfl <;> rfl) (by omega)
              have F134 := FR.w F119 W131 (show (p + 6) = 1 ∧ 6 ≤ ((M.2.1 p 3).toInt).toNat ∧ ((M.2.1 p 3).toInt).toNat ≤ 11 ∨ (p + 6) = p ∧ ((M.2.1 p 3).toInt).toNat = 3 ∨ p + 6 ≤ (p + 6) ∧ (p + 6) ≤ p + 8 by omega)
              refine to_an (pc := 91) rw_41_91 rfl (s_gR (pc := 92) rw_41_92 hG133 (by rcases hp with rfl | rfl <;> rfl) (v := (p + 7)) (by rcases hp with rfl | rfl <;> rfl) (to_an (pc := 95) rw_41_95 rfl ?_))
              have c_135 : M132.2.1 p 3 = (M.2.1 p 3) := (W_n W131 (by omega) c_129)
              refine tt_gI (pc := 96) rw_41_96 (g_o hG133 (by rcases hp with rfl | rfl <;> rfl)) (v := (M.2.1 p 3)) c_135 (to_in (pc := 99) rw_41_99 rfl (s_ias (pc := 100) rw_41_100 hG133 (by rcases hp with rfl | rfl <;> rfl) (n := 12) (by rcases hp with rfl | rfl <;> rfl) (A := (M.2.1 p 3).toInt) rfl (by omega) (by omega) (fun M137 W136 => ?_)))
              have hG138 := g_w hG133 W136 (A := r26.toInt) rfl (lo := 0) (hi := 7) (by rcases hp with rfl | rfl <;> rfl) (by rcases hp with rfl | rfl <;> rfl) (by omega) (by omega)
              have F139 := FR.w F134 W136 (show (p + 7) = 1 ∧ 6 ≤ ((M.2.1 p 3).toInt).toNat ∧ ((M.2.1 p 3).toInt).toNat ≤ 11 ∨ (p + 7) = p ∧ ((M.2.1 p 3).toInt).toNat = 3 ∨ p + 6 ≤ (p + 7) ∧ (p + 7) ≤ p + 8 by omega)
              refine to_an (pc := 101) rw_41_101 rfl (s_v (pc := 102) rw_41_102 (dp0 hd (by decide)) (ls0 := [.ref 1]) rfl (Nat.le_of_ble_eq_true rfl) (Nat.le_of_ble_eq_true rfl) rfl (to_rc rfl rfl rfl (g_o hG138 rfl)) rfl ?_)
              have j_140 := (CS_f (fun a i z => W_n W136 (by omega) rfl) (CS_f (fun a i z => W_n W131 (by omega) rfl) (CS_f (tg_34 F108) p_98)))
              have c_141 : M137.2.1 1 9 = (M100.2.1 1 9) := (W_n W136 (by omega) (W_n W131 (by omega) (F_n F108 (show ¬ (1 = 1 ∧ (9 = 10 ∨ 9 = 11)) by decide) rfl)))
              have t_142 : (M137.2.1 1 9).toInt = (M100.2.1 1 9).toInt := congrArg Int32.toInt c_141
              refine E_83 hX (dp1 hd (by decide)) hG138 j_140 (by omega) (t := t) (nn := nn) (a := (x_ns t nn (x_ns t nn a))) (fun M147 hG144 F143 p_145 p_146 => ?_)
              have F148 := FR.c F139 F143 (fun a i z => show a = 1 ∧ 6 ≤ i ∧ i ≤ 11 ∨ a = p ∧ i = 3 ∨ p + 6 ≤ a ∧ a ≤ p + 8 by have z : a = 1 ∧ 6 ≤ i ∧ i ≤ 9 := z; omega)
              refine to_an (pc := 105) rw_41_105 rfl (to_an (pc := 106) rw_41_106 rfl (to_in (pc := 107) rw_41_107 rfl (s_v (pc := 108) rw_41_108 (dp0 hd (by decide)) (ls0 := [.ref p, .ref 1, .int r26, .null, .null, .null, .null, .null, .null]) rfl (Nat.le_of_ble_eq_true rfl) (Nat.le_of_ble_eq_true rfl) rfl (to_rc rfl rfl rfl (g_o hG144 (by rcases hp with rfl | rfl <;> rfl))) rfl ?_)))
              have c_149 : M147.2.1 1 10 = (M118.2.1 1 10) := (F_n F143 (show ¬ (1 = 1 ∧ 6 ≤ 10 ∧ 10 ≤ 9) by decide) (W_n W136 (by omega) (W_n W131 (by omega) rfl)))
              have t_150 : (M147.2.1 1 10).toInt = (M118.2.1 1 10).toInt := congrArg Int32.toInt c_149
              have c_151 : M147.2.1 1 11 = (M118.2.1 1 11) := (F_n F143 (show ¬ (1 = 1 ∧ 6 ≤ 11 ∧ 11 ≤ 9) by decide) (W_n W136 (by omega) (W_n W131 (by omega) rfl)))
              have t_152 : (M147.2.1 1 11).toInt = (M118.2.1 1 11).toInt := congrArg Int32.toInt c_151
              have j_153 := (PLc_f (fun a i z => F_n F143 (show ¬ (a = 1 ∧ 6 ≤ i ∧ i ≤ 9) by omega) rfl) (F_nl F143 (show ¬ (p = 1 ∧ 6 ≤ 4 ∧ 4 ≤ 9) by omega) rfl) (PLc_f (fun a i z => W_n W136 (by omega) rfl) (W_j W136 rfl) (PLc_f (fun a i z => W_n W131 (by omega) rfl) (W_j W131 rfl) (PLc_f (fun a i z => F_n F108 (show ¬ (a = 1 ∧ (i = 10 ∨ i = 11)) by omega) rfl) (F_nl F108 (show ¬ (p = 1 ∧ (4 = 10 ∨ 4 = 11)) by omega) rfl) j_106))))
              have j_154 := (CW_f (fun k hk9 => F_nl F143 (show ¬ ((p + 8) = 1 ∧ 6 ≤ k ∧ k ≤ 9) by omega) rfl) (CW_f (fun k hk9 => W_j W136 rfl) (CW_f (fun k hk9 => W_j W131 rfl) (CW_f (fun k hk9 => F_nl F108 (show ¬ ((p + 8) = 1 ∧ (k = 10 ∨ k = 11)) by omega) rfl) (CW_f (fun k hk9 => F_nl F96 (show ¬ ((p + 8) = 1 ∧ 6 ≤ k ∧ k ≤ 9) by omega) rfl) (CW_f (fun k hk9 => F_nl F27 (show ¬ ((p + 8) < 0) by omega) rfl) (CW_f (fun k hk9 => F_nl F16 (show ¬ ((p + 8) = 1 ∧ 6 ≤ k ∧ k ≤ 9) by omega) rfl) q4)))))))
              have c_155 : M147.2.1 p 3 = (M.2.1 p 3) := (F_n F143 (show ¬ (p = 1 ∧ 6 ≤ 3 ∧ 3 ≤ 9) by omega) (W_n W136 (by omega) c_135))
              have t_156 : (M147.2.1 p 3).toInt = (M.2.1 p 3).toInt := congrArg Int32.toInt c_155
              refine E_42 hX (dp1 hd (by decide)) hG144 hp p_145 (by omega) j_153 j_154 (by omega) (by omega) (by omega) (by omega) (by omega) (p := p) (f := r26) (t := t) (nn := nn) (a := (x_ns t nn (x_ns t nn (x_ns t nn a)))) (sg := sg) (k := k) (nm := (x_val t nn (x_ns t nn (x_ns t nn a)))) (fun r157 M168 hG159 F158 p_160 p_161 p_162 p_163 p_164 p_165 p_166 p_167 => ?_)
              have F169 := FR.c F148 F158 (fun a i z => show a = 1 ∧ 6 ≤ i ∧ i ≤ 11 ∨ a = p ∧ i = 3 ∨ p + 6 ≤ a ∧ a ≤ p + 8 by have z : a = 1 ∧ 6 ≤ i ∧ i ≤ 11 ∨ a = p + 8 := z; omega)
              rcases (show r157.toInt = 0 ∨ r157.toInt = 1 by omega) with h170 | h170
              · skip
                have p_171 := p_165 (by omega)
                clear p_165 p_166 p_167
                refine b_ine_f (pc := 111) rw_41_111 (A := r157.toInt) rfl (by omega) (to_c (pc := 114) rw_41_114 (x := (0 : Int32)) rfl rfl (s_r1 (pc := 115) rw_41_115 (A := 0) rfl (by decide) ?_))
                have k_172 : (0 : Int32).toInt = 0 := rfl
                have z_173 : x_word t nn sg a (x_ns t nn a) k = x_rc t nn sg r26.toInt (x_val t nn (x_ns t nn (x_ns t nn a))) k 6 0 0 (x_ns t nn (x_ns t nn (x_ns t nn a))) := x_word_y (by omega) (by omega)
                exact h (0 : Int32) M168 hG159 F169 (by decide) (by decide) p_162 (fun _ => z_173.trans p_171) (fun z => absurd z (by decide)) (by omega)
              · skip
                have p_174 := p_166 (by omega)
                have p_175 := p_167 (by omega)
                clear p_165 p_166 p_167
                refine b_ine_t (pc := 111) rw_41_111 (A := r157.toInt) rfl (by omega) (to_an (pc := 116) rw_41_116 rfl (to_dupr (pc := 117) rw_41_117 ?_))
                have c_176 : M168.2.1 p 3 = (M.2.1 p 3) := (F_n F158 (show ¬ (p = 1 ∧ 6 ≤ 3 ∧ 3 ≤ 11 ∨ p = p + 8) by omega) c_155)
                refine tt_gI (pc := 118) rw_41_118 (g_o hG159 (by rcases hp with rfl | rfl <;> rfl)) (v := (M.2.1 p 3)) c_176 (to_c (pc := 121) rw_41_121 (x := (1 : Int32)) rfl rfl (s_add (pc := 122) rw_41_122 (A := (M.2.1 p 3).toInt) (B := 1) rfl rfl (by omega) (fun v177 e178 => ?_)))
                have r_179 : (M168.2.1 (p + 6) sg.2.2.1.toNat).toInt = (M100.2.1 1 8).toInt := by rw [show sg.2.2.1.toNat = ((M.2.1 p 3).toInt).toNat by omega, show M168.2.1 (p + 6) ((M.2.1 p 3).toInt).toNat = (M100.2.1 1 8) from (F_n F158 (show ¬ ((p + 6) = 1 ∧ 6 ≤ ((M.2.1 p 3).toInt).toNat ∧ ((M.2.1 p 3).toInt).toNat ≤ 11 ∨ (p + 6) = p + 8) by omega) (F_n F143 (show ¬ ((p + 6) = 1 ∧ 6 ≤ ((M.2.1 p 3).toInt).toNat ∧ ((M.2.1 p 3).toInt).toNat ≤ 9) by omega) (W_n W136 (by omega) (W_e W131))))]
                have r_180 : (M168.2.1 (p + 7) sg.2.2.1.toNat).toInt = r26.toInt := by rw [show sg.2.2.1.toNat = ((M.2.1 p 3).toInt).toNat by omega, show M168.2.1 (p + 7) ((M.2.1 p 3).toInt).toNat = r26 from (F_n F158 (show ¬ ((p + 7) = 1 ∧ 6 ≤ ((M.2.1 p 3).toInt).toNat ∧ ((M.2.1 p 3).toInt).toNat ≤ 11 ∨ (p + 7) = p + 8) by omega) (F_n F143 (show ¬ ((p + 7) = 1 ∧ 6 ≤ ((M.2.1 p 3).toInt).toNat ∧ ((M.2.1 p 3).toInt).toNat ≤ 9) by omega) (W_e W136)))]
                refine s_pI (pc := 123) rw_41_123 hG159 (by rcases hp with rfl | rfl <;> rfl) (fun M182 W181 => ?_)
                have hG183 := g_w hG159 W181 (A := v177.toInt) rfl (lo := 0) (hi := 12) (by rcases hp with rfl | rfl <;> rfl) (by rcases hp with rfl | rfl <;> rfl) (by omega) (by omega)
                have F184 := FR.w F169 W181 (show p = 1 ∧ 6 ≤ 3 ∧ 3 ≤ 11 ∨ p = p ∧ 3 = 3 ∨ p + 6 ≤ p ∧ p ≤ p + 8 by omega)
                refine to_c (pc := 126) rw_41_126 (x := (1 : Int32)) rfl rfl (s_r1 (pc := 127) rw_41_127 (A := 1) rfl (by decide) ?_)
                have k_185 : (1 : Int32).toInt = 1 := rfl
                have j_186 := (CS_f (fun a i z => W_n W181 (by omega) rfl) p_162)
                have c_187 : M182.2.1 1 9 = (M168.2.1 1 9) := (W_n W181 (by omega) rfl)
                have t_188 : (M182.2.1 1 9).toInt = (M168.2.1 1 9).toInt := congrArg Int32.toInt c_187
                have z_189 : x_word t nn sg a (x_ns t nn a) k = x_rc t nn sg r26.toInt (x_val t nn (x_ns t nn (x_ns t nn a))) k 6 0 0 (x_ns t nn (x_ns t nn (x_ns t nn a))) := x_word_y (by omega) (by omega)
                have z_190 := (⟨PLc_wp (nm := x_val t nn (x_ns t nn (x_ns t nn a))) (f := r26.toInt) (b := (M168.2.2.1 (p + 8) sg.2.2.1.toNat).toInt) p_163 W181 (by omega) (by omega) (by omega) (r_179.trans (by omega)) (r_180.trans (by omega)), CW_wp p_164 W181 rfl⟩ : PLc2 _ _ _)
                have c_191 : M182.2.1 1 10 = (M168.2.1 1 10) := (W_n W181 (by omega) rfl)
                have t_192 : (M182.2.1 1 10).toInt = (M168.2.1 1 10).toInt := congrArg Int32.toInt c_191
                have c_193 : M182.2.1 1 11 = (M168.2.1 1 11) := (W_n W181 (by omega) rfl)
                have t_194 : (M182.2.1 1 11).toInt = (M168.2.1 1 11).toInt := congrArg Int32.toInt c_193
                exact h (1 : Int32) M182 hG183 F184 (by decide) (by decide) j_186 (fun z => absurd z (by decide)) (fun _ => by rw [show (M182.2.1 1 9).toInt = (M168.2.1 1 9).toInt by omega, z_189]; rcases p_174 with h9 | h9; exact Or.inl ⟨_, h9, z_190, (by show sg.2.1 + (sg.2.2.1 + 1) = _; omega)⟩; exact Or.inr h9) (by omega)
    · refine to_an (pc := 27) rw_41_27 rfl (to_c (pc := 28) rw_41_28 (x := (1 : Int32)) rfl rfl (s_v (pc := 29) rw_41_29 (dp0 hd (by decide)) (ls0 := [.ref 1, .int (1 : Int32)]) rfl (Nat.le_of_ble_eq_true rfl) (Nat.le_of_ble_eq_true rfl) rfl (to_rc rfl rfl rfl (g_o hG17 rfl)) rfl (to_an (pc := 0) rw_84_0 rfl (to_in (pc := 1) rw_84_1 rfl (s_pI (pc := 2) rw_84_2 hG17 rfl (fun M196 W195 => ?_))))))
      have hG197 := g_wf hG17 W195 rfl rfl (by decide)
      have F198 := FR.w F21 W195 (show 1 = 1 ∧ 6 ≤ 10 ∧ 10 ≤ 11 ∨ 1 = p ∧ 10 = 3 ∨ p + 6 ≤ 1 ∧ 1 ≤ p + 8 by omega)
      refine to_an (pc := 5) rw_84_5 rfl (to_an (pc := 6) rw_84_6 rfl ?_)
      have c_199 : M196.2.1 1 9 = (M20.2.1 1 9) := (W_n W195 (by decide) rfl)
      refine tt_gI (pc := 7) rw_84_7 (g_o hG197 rfl) (v := (M20.2.1 1 9)) c_199 (s_pI (pc := 10) rw_84_10 hG197 rfl (fun M201 W200 => ?_))
      have hG202 := g_wf hG197 W200 rfl rfl (by decide)
      have F203 := FR.w F198 W200 (show 1 = 1 ∧ 6 ≤ 11 ∧ 11 ≤ 11 ∨ 1 = p ∧ 11 = 3 ∨ p + 6 ≤ 1 ∧ 1 ≤ p + 8 by omega)
      refine to_c (pc := 13) rw_84_13 (x := (0 : Int32)) rfl rfl (s_r1 (pc := 14) rw_84_14 (A := 0) rfl (by decide) (s_r1 (pc := 32) rw_41_32 (A := 0) rfl (by decide) ?_))
      have k_204 : (0 : Int32).toInt = 0 := rfl
      have j_205 := (CS_f (fun a i z => W_n W200 (tg_32 a i z) rfl) (CS_f (fun a i z => W_n W195 (tg_33 a i z) rfl) p_18))
      have c_206 : M201.2.1 1 10 = (1 : Int32) := (W_n W200 (by decide) (W_e W195))
      have k_207 : (1 : Int32).toInt = 1 := rfl
      have t_208 : (M201.2.1 1 10).toInt = (1 : Int32).toInt := congrArg Int32.toInt c_206
      have c_209 : M201.2.1 1 11 = (M20.2.1 1 9) := (W_e W200)
      have t_210 : (M201.2.1 1 11).toInt = (M20.2.1 1 9).toInt := congrArg Int32.toInt c_209
      exact h (0 : Int32) M201 hG202 F203 (by decide) (by decide) j_205 (fun _ => pinl (by omega) (by omega) (xw_11 (by omega) (by omega))) (fun z => absurd z (by decide)) (by omega)
  · refine to_an (pc := 9) rw_41_9 rfl (to_c (pc := 10) rw_41_10 (x := (2 : Int32)) rfl rfl (s_v (pc := 11) rw_41_11 (dp0 hd (by decide)) (ls0 := [.ref 1, .int (2 : Int32)]) rfl (Nat.le_of_ble_eq_true rfl) (Nat.le_of_ble_eq_true rfl) rfl (to_rc rfl rfl rfl (g_o hG rfl)) rfl (to_an (pc := 0) rw_84_0 rfl (to_in (pc := 1) rw_84_1 rfl (s_pI (pc := 2) rw_84_2 hG rfl (fun M212 W211 => ?_))))))
    have hG213 := g_wf hG W211 rfl rfl (by decide)
    have F214 := FR.w F0 W211 (show 1 = 1 ∧ 6 ≤ 10 ∧ 10 ≤ 11 ∨ 1 = p ∧ 10 = 3 ∨ p + 6 ≤ 1 ∧ 1 ≤ p + 8 by omega)
    refine to_an (pc := 5) rw_84_5 rfl (to_an (pc := 6) rw_84_6 rfl ?_)
    have c_215 : M212.2.1 1 9 = (M.2.1 1 9) := (W_n W211 (by decide) rfl)
    refine tt_gI (pc := 7) rw_84_7 (g_o hG213 rfl) (v := (M.2.1 1 9)) c_215 (s_pI (pc := 10) rw_84_10 hG213 rfl (fun M217 W216 => ?_))
    have hG218 := g_wf hG213 W216 rfl rfl (by decide)
    have F219 := FR.w F214 W216 (show 1 = 1 ∧ 6 ≤ 11 ∧ 11 ≤ 11 ∨ 1 = p ∧ 11 = 3 ∨ p + 6 ≤ 1 ∧ 1 ≤ p + 8 by omega)
    refine to_c (pc := 13) rw_84_13 (x := (0 : Int32)) rfl rfl (s_r1 (pc := 14) rw_84_14 (A := 0) rfl (by decide) (s_r1 (pc := 14) rw_41_14 (A := 0) rfl (by decide) ?_))
    have k_220 : (0 : Int32).toInt = 0 := rfl
    have j_221 := (CS_f (fun a i z => W_n W216 (tg_32 a i z) rfl) (CS_f (fun a i z => W_n W211 (tg_33 a i z) rfl) q1))
    have c_222 : M217.2.1 1 10 = (2 : Int32) := (W_n W216 (by decide) (W_e W211))
    have k_223 : (2 : Int32).toInt = 2 := rfl
    have t_224 : (M217.2.1 1 10).toInt = (2 : Int32).toInt := congrArg Int32.toInt c_222
    have c_225 : M217.2.1 1 11 = (M.2.1 1 9) := (W_e W216)
    have t_226 : (M217.2.1 1 11).toInt = (M.2.1 1 9).toInt := congrArg Int32.toInt c_225
    exact h (0 : Int32) M217 hG218 F219 (by decide) (by decide) j_221 (fun _ => pinl (by omega) (by omega) (xw_02 (by omega))) (fun z => absurd z (by decide)) (by omega)
