set_option maxRecDepth 4000 in
set_option maxHeartbeats 0 in
theorem U_42_0 {X : mm_X} {d : Nat} {M : mm_M} {Q : Option Value → mm_M → Prop} {p : Nat} {f : Int32} {t : Nat → Int} {nn : Int} {a : Int} {sg : x_S} {k : x_K} {nm : Int} (hX : g_X X) (hd : 2 ≤ d) (hp : p = 49 ∨ p = 58) (q1 : CS M t nn) (q2 : (M.2.1 1 9).toInt = a) (q3 : PLc M p sg) (q4 : 0 ≤ f.toInt) (q5 : f.toInt ≤ 7) (q6 : f.toInt < sg.2.1) (q7 : x_row sg 2 f.toInt = 3) (q8 : (M.2.1 p 3).toInt ≤ 11) (h : ∀ (r : Int32) (M1 : mm_M), g_G M1 → FR (md_c42e p) M M1 → (0 ≤ r.toInt) → (r.toInt ≤ 1) → CS M1 t nn → PLc M1 p sg → ((r.toInt = 0 → x_rc t nn sg f.toInt nm k 6 0 0 a = none)) → ((r.toInt = 1 → x_rc t nn sg f.toInt nm k 6 0 0 a = k (M1.2.1 1 9).toInt (x_pushw sg nm f.toInt) ∨ x_rc t nn sg f.toInt nm k 6 0 0 a = none ∧ ¬ (x_kind t nn (M1.2.1 1 9).toInt = 4 ∧ x_val t nn (M1.2.1 1 9).toInt = 59))) → Q (some (.int r)) M1) : ∀ nn9 : Nat, (∀ (N : mm_M) (y3 : Int64) (x5 : Int32) (u6 : Value) (u7 : Value) (u8 : Value), g_G N → FR (md_c42e p) M N → (0 ≤ x5.toInt) → (x5.toInt ≤ 4) → (x5.toInt ≤ x_row sg 5 f.toInt) → ((N.2.1 p 3).toInt ≤ 11) → (CS N t nn) → (PLc N p sg) → (x_rc t nn sg f.toInt nm k (6 - x5.toInt).toNat x5.toInt y3 (N.2.1 1 9).toInt = x_rc t nn sg f.toInt nm k 6 0 0 a) → 10 - x5.toInt < (nn9 : Int) → mm_T X d 42 5 [.ref p, .ref 1, .int f, .long y3, .null, .int x5, u6, u7, u8] [] N Q) := by
  intro nn9
  induction nn9 with
  | zero =>
    intro N y3 x5 u6 u7 u8 hG F0 g1 g2 g3 g4 g5 g6 g7 hm
    have b_1 := g_b hG (a := p) (i := 3) (lo := 0) (hi := 12) (by rcases hp with rfl | rfl <;> rfl) (by rcases hp with rfl | rfl <;> rfl)
    exfalso; omega
  | succ nn9 ih =>
    intro N y3 x5 u6 u7 u8 hG F0 g1 g2 g3 g4 g5 g6 g7 hm
    have b_2 := g_b hG (a := p) (i := 3) (lo := 0) (hi := 12) (by rcases hp with rfl | rfl <;> rfl) (by rcases hp with rfl | rfl <;> rfl)
    have z_3 := g6.2.1
    have z_4 := g6.2.2.1
    have z_5 := g6.2.2.2.1
    have z_6 := g6.1
    have z_7 := z_6.1
    have z_8 := z_6.2.1
    have z_9 := z_6.2.2.1
    have z_10 := z_6.2.2.2.1
    have z_11 := z_6.2.2.2.2.1
    have z_12 := z_6.2.2.2.2.2.1
    have b_13 := g_b hG (a := p) (i := 2) (lo := 0) (hi := 8) (by rcases hp with rfl | rfl <;> rfl) (by rcases hp with rfl | rfl <;> rfl)
    have z_14 := g6.1.2.2.2.2.2.2.2 f.toInt (by omega) (by omega)
    refine to_i (pc := 5) rw_42_5 rfl ?_
    refine b_ieq (pc := 7) rw_42_7 (A := x5.toInt) rfl (fun h15 => ?_) (fun h15 => ?_)
    · refine to_i (pc := 29) rw_42_29 rfl ?_
      refine to_an (pc := 31) rw_42_31 rfl ?_
      refine s_gR (pc := 32) rw_42_32 hG (by rcases hp with rfl | rfl <;> rfl) (v := (p + 5)) (by rcases hp with rfl | rfl <;> rfl) ?_
      refine to_in (pc := 35) rw_42_35 rfl ?_
      refine s_ial (pc := 36) rw_42_36 hG (by rcases hp with rfl | rfl <;> rfl) (n := 8) (by rcases hp with rfl | rfl <;> rfl) (by rcases hp with rfl | rfl <;> rfl) (A := f.toInt) rfl (by omega) (by omega) (lo := 0) (hi := 24) (by rcases hp with rfl | rfl <;> rfl) (by rcases hp with rfl | rfl <;> rfl) (fun v16 w_17 _ _ => ?_)
      have z_18 := PLc_r g6 5 (by decide) (by decide) (k := f.toInt) (by omega) (by omega) w_17
      refine b_cge (pc := 37) rw_42_37 (A := x5.toInt) (B := v16.toInt) rfl rfl (fun h19 => ?_) (fun h19 => ?_)
      · refine to_c (pc := 50) rw_42_50 (x := (-1 : Int32)) rfl rfl ?_
        refine to_is (pc := 51) rw_42_51 (ls2 := [.ref p, .ref 1, .int f, .long y3, .null, .int x5, .int (-1 : Int32), u7, u8]) rfl rfl ?_
        refine to_an (pc := 53) rw_42_53 rfl ?_
        refine to_c (pc := 54) rw_42_54 (x := (0 : Int32)) rfl rfl ?_
        refine to_i (pc := 55) rw_42_55 rfl ?_
        refine s_v (pc := 57) rw_42_57 (by omega) (ls0 := [.ref 1, .int (0 : Int32), .int (-1 : Int32)]) rfl (Nat.le_of_ble_eq_true rfl) (Nat.le_of_ble_eq_true rfl) rfl (to_rc rfl rfl rfl (g_o hG rfl)) rfl ?_
        have k_20 : (0 : Int32).toInt = 0 := rfl
        have k_21 : (-1 : Int32).toInt = -1 := rfl
        refine E_88 hX (by omega) hG g5 (by omega) (l := (0 : Int32)) (m := (-1 : Int32)) (t := t) (nn := nn) (a := (N.2.1 1 9).toInt) (fun r22 M29 hG24 F23 p_25 p_26 p_27 p_28 => ?_)
        have F30 := FR.c F0 F23 (fun a i z => show a = 1 ∧ 6 ≤ i ∧ i ≤ 11 ∨ a = p + 8 by have z : a = 1 ∧ (i = 10 ∨ i = 11) := z; omega)
        rcases (show r22.toInt = 0 ∨ r22.toInt = 1 by omega) with h31 | h31
        · skip
          have p_32 := p_28 (by omega)
          clear p_27 p_28
          have z_33 := x_val_b (t := t) (nn := nn) (a := (N.2.1 1 9).toInt)
          refine b_ine_f (pc := 60) rw_42_60 (A := r22.toInt) rfl (by omega) ?_
          refine to_c (pc := 63) rw_42_63 (x := (0 : Int32)) rfl rfl ?_
          refine s_r1 (pc := 64) rw_42_64 (A := 0) rfl (by omega) ?_
          have j_34 := (CS_f (fun a i z => F_n F23 (show ¬ (a = 1 ∧ (i = 10 ∨ i = 11)) by omega) rfl) g5)
          have j_35 := (PLc_f (fun a i z => F_n F23 (show ¬ (a = 1 ∧ (i = 10 ∨ i = 11)) by omega) rfl) (F_nl F23 (show ¬ (p = 1 ∧ (4 = 10 ∨ 4 = 11)) by omega) rfl) g6)
          exact h (0 : Int32) M29 hG24 F30 (by omega) (by omega) j_34 j_35 (fun _ => g7.symm.trans (by first | exact x_rc_n1 (by omega) (by omega) | exact x_rc_n2 (by omega) (by omega) | exact (if g9 : x_kind t nn (N.2.1 1 9).toInt = 3 then x_rc_n1 g9 (by omega) else x_rc_n2 g9 (by omega)))) (fun z => absurd z (by decide))
        · skip
          have p_36 := p_27 (by omega)
          clear p_27 p_28
          have c_37 : M29.2.1 1 8 = (N.2.1 1 8) := (F_n F23 (show ¬ (1 = 1 ∧ (8 = 10 ∨ 8 = 11)) by omega) rfl)
          have z_38 := x_val_b (t := t) (nn := nn) (a := (N.2.1 1 9).toInt) (by omega)
          refine b_ine_t (pc := 60) rw_42_60 (A := r22.toInt) rfl (by omega) ?_
          refine to_cl (pc := 65) rw_42_65 rfl (x := (1 : Int64)) rfl ?_
          refine to_an (pc := 66) rw_42_66 rfl ?_
          refine s_gR (pc := 67) rw_42_67 hG24 (by rcases hp with rfl | rfl <;> rfl) (v := (p + 3)) (by rcases hp with rfl | rfl <;> rfl) ?_
          refine to_in (pc := 70) rw_42_70 rfl ?_
          refine s_ial (pc := 71) rw_42_71 hG24 (by rcases hp with rfl | rfl <;> rfl) (n := 8) (by rcases hp with rfl | rfl <;> rfl) (by rcases hp with rfl | rfl <;> rfl) (A := f.toInt) rfl (by omega) (by omega) (lo := 0) (hi := 59) (by rcases hp with rfl | rfl <;> rfl) (by rcases hp with rfl | rfl <;> rfl) (fun v39 w_40 _ _ => ?_)
          have j_41 := (PLc_f (fun a i z => F_n F23 (show ¬ (a = 1 ∧ (i = 10 ∨ i = 11)) by omega) rfl) (F_nl F23 (show ¬ (p = 1 ∧ (4 = 10 ∨ 4 = 11)) by omega) rfl) g6)
          have z_42 := PLc_r j_41 3 (by decide) (by decide) (k := f.toInt) (by omega) (by omega) w_40
          refine to_an (pc := 72) rw_42_72 rfl ?_
          refine tt_gI (pc := 73) rw_42_73 (g_o hG24 rfl) (v := (N.2.1 1 8)) c_37 ?_
          refine s_add (pc := 76) rw_42_76 (A := v39.toInt) (B := (N.2.1 1 8).toInt) rfl rfl (by omega) (fun v43 e44 => ?_)
          refine to_2s (pc := 77) rw_42_77 (v := ((1 : Int64) <<< (v43.toInt64 &&& 63))) rfl ?_
          refine to_ls (pc := 78) rw_42_78 (ls2 := [.ref p, .ref 1, .int f, .long y3, .null, .int x5, .int (-1 : Int32), .long ((1 : Int64) <<< (v43.toInt64 &&& 63)), .null]) rfl rfl ?_
          refine to_ln (pc := 80) rw_42_80 rfl rfl rfl ?_
          refine to_l (pc := 81) rw_42_81 rfl rfl rfl ?_
          refine to_2l (pc := 83) rw_42_83 (v := (y3 &&& ((1 : Int64) <<< (v43.toInt64 &&& 63)))) rfl ?_
          refine to_cl (pc := 84) rw_42_84 rfl (x := (0 : Int64)) rfl ?_
          refine s_lcmpE (pc := 85) rw_42_85 (fun v45 e46 => ?_)
          have b_47 := x_eq_b (x := (y3 &&& ((1 : Int64) <<< (v43.toInt64 &&& 63)))) (y := (0 : Int64))
          have z_48 := x_hit_e (v := v43) (bits := y3) (h := (x_row sg 3 f.toInt + x_val t nn (N.2.1 1 9).toInt))
          refine b_ieq (pc := 86) rw_42_86 (A := v45.toInt) rfl (fun h49 => ?_) (fun h49 => ?_)
          · refine to_ln (pc := 95) rw_42_95 rfl rfl rfl ?_
            refine to_l (pc := 96) rw_42_96 rfl rfl rfl ?_
            refine to_2l (pc := 98) rw_42_98 (v := (y3 ||| ((1 : Int64) <<< (v43.toInt64 &&& 63)))) rfl ?_
            refine to_lsn (pc := 99) rw_42_99 (ls2 := [.ref p, .ref 1, .int f, .long (y3 ||| ((1 : Int64) <<< (v43.toInt64 &&& 63))), .null, .int x5, .int (-1 : Int32), .long ((1 : Int64) <<< (v43.toInt64 &&& 63)), .null]) rfl rfl ?_
            refine s_inc (pc := 100) rw_42_100 (ls2 := fun v => [.ref p, .ref 1, .int f, .long (y3 ||| ((1 : Int64) <<< (v43.toInt64 &&& 63))), .null, .int v, .int (-1 : Int32), .long ((1 : Int64) <<< (v43.toInt64 &&& 63)), .null]) rfl rfl (fun _ => rfl) (A := x5.toInt) (B := 1) rfl rfl (by omega) (fun v50 e51 => ?_)
            refine to_an (pc := 103) rw_42_103 rfl ?_
            refine s_v (pc := 104) rw_42_104 (by omega) (ls0 := [.ref 1]) rfl (Nat.le_of_ble_eq_true rfl) (Nat.le_of_ble_eq_true rfl) rfl (to_rc rfl rfl rfl (g_o hG24 rfl)) rfl ?_
            have j_52 := (CS_f (fun a i z => F_n F23 (show ¬ (a = 1 ∧ (i = 10 ∨ i = 11)) by omega) rfl) g5)
            have c_53 : M29.2.1 1 9 = (N.2.1 1 9) := (F_n F23 (show ¬ (1 = 1 ∧ (9 = 10 ∨ 9 = 11)) by omega) rfl)
            have t_54 : (M29.2.1 1 9).toInt = (N.2.1 1 9).toInt := congrArg Int32.toInt c_53
            refine E_83 hX (by omega) hG24 j_52 (by omega) (t := t) (nn := nn) (a := (N.2.1 1 9).toInt) (fun M59 hG56 F55 p_57 p_58 => ?_)
            have F60 := FR.c F30 F55 (fun a i z => show a = 1 ∧ 6 ≤ i ∧ i ≤ 11 ∨ a = p + 8 by have z : a = 1 ∧ 6 ≤ i ∧ i ≤ 9 := z; omega)
            refine to_go (pc := 107) rw_42_107 ?_
            have c_61 : M59.2.1 p 3 = (N.2.1 p 3) := (F_n F55 (show ¬ (p = 1 ∧ 6 ≤ 3 ∧ 3 ≤ 9) by omega) (F_n F23 (show ¬ (p = 1 ∧ (3 = 10 ∨ 3 = 11)) by omega) rfl))
            have t_62 : (M59.2.1 p 3).toInt = (N.2.1 p 3).toInt := congrArg Int32.toInt c_61
            have j_63 := (PLc_f (fun a i z => F_n F55 (show ¬ (a = 1 ∧ 6 ≤ i ∧ i ≤ 9) by omega) rfl) (F_nl F55 (show ¬ (p = 1 ∧ 6 ≤ 4 ∧ 4 ≤ 9) by omega) rfl) j_41)
            exact ih M59 (y3 ||| ((1 : Int64) <<< (v43.toInt64 &&& 63))) v50 (.int (-1 : Int32)) (.long ((1 : Int64) <<< (v43.toInt64 &&& 63))) (.null) hG56 F60 (by omega) (by omega) (by omega) (by omega) p_57 j_63 (x_rc_s (fu := (6 - x5.toInt).toNat) (told := x5.toInt) (bits := y3) (b := (N.2.1 1 9).toInt) (by omega) (by omega) (by omega) (by omega) (by omega) (congrArg (fun z => y3 ||| z) (x_bit_e (v := v43) (by omega))) g7) (by omega)
          · refine to_an (pc := 89) rw_42_89 rfl ?_
            refine to_c (pc := 90) rw_42_90 (x := (3 : Int32)) rfl rfl ?_
            refine s_v (pc := 91) rw_42_91 (by omega) (ls0 := [.ref 1, .int (3 : Int32)]) rfl (Nat.le_of_ble_eq_true rfl) (Nat.le_of_ble_eq_true rfl) rfl (to_rc rfl rfl rfl (g_o hG24 rfl)) rfl ?_
            refine to_an (pc := 0) rw_84_0 rfl ?_
            refine to_in (pc := 1) rw_84_1 rfl ?_
            refine s_pI (pc := 2) rw_84_2 hG24 rfl (fun M65 W64 => ?_)
            have hG66 := g_wf hG24 W64 rfl rfl (by decide)
            have F67 := FR.w F30 W64 (show 1 = 1 ∧ 6 ≤ 10 ∧ 10 ≤ 11 ∨ 1 = p + 8 by omega)
            refine to_an (pc := 5) rw_84_5 rfl ?_
            refine to_an (pc := 6) rw_84_6 rfl ?_
            have c_68 : M65.2.1 1 9 = (N.2.1 1 9) := (W_n W64 (by decide) (F_n F23 (show ¬ (1 = 1 ∧ (9 = 10 ∨ 9 = 11)) by omega) rfl))
            refine tt_gI (pc := 7) rw_84_7 (g_o hG66 rfl) (v := (N.2.1 1 9)) c_68 ?_
            refine s_pI (pc := 10) rw_84_10 hG66 rfl (fun M70 W69 => ?_)
            have hG71 := g_wf hG66 W69 rfl rfl (by decide)
            have F72 := FR.w F67 W69 (show 1 = 1 ∧ 6 ≤ 11 ∧ 11 ≤ 11 ∨ 1 = p + 8 by omega)
            refine to_c (pc := 13) rw_84_13 (x := (0 : Int32)) rfl rfl ?_
            refine s_r1 (pc := 14) rw_84_14 (A := 0) rfl (by omega) ?_
            refine s_r1 (pc := 94) rw_42_94 (A := 0) rfl (by omega) ?_
            have j_73 := (CS_f (fun a i z => W_n W69 (by omega) rfl) (CS_f (fun a i z => W_n W64 (by omega) rfl) (CS_f (fun a i z => F_n F23 (show ¬ (a = 1 ∧ (i = 10 ∨ i = 11)) by omega) rfl) g5)))
            have j_74 := (PLc_f (fun a i z => W_n W69 (by omega) rfl) (W_j W69 rfl) (PLc_f (fun a i z => W_n W64 (by omega) rfl) (W_j W64 rfl) j_41))
            exact h (0 : Int32) M70 hG71 F72 (by omega) (by omega) j_73 j_74 (fun _ => g7.symm.trans (by first | exact x_rc_n1 (by omega) (by omega) | exact x_rc_n2 (by omega) (by omega) | exact (if g9 : x_kind t nn (N.2.1 1 9).toInt = 3 then x_rc_n1 g9 (by omega) else x_rc_n2 g9 (by omega)))) (fun z => absurd z (by decide))
      · refine to_an (pc := 40) rw_42_40 rfl ?_
        refine to_in (pc := 41) rw_42_41 rfl ?_
        refine s_v (pc := 42) rw_42_42 (by omega) (ls0 := [.ref p, .int f]) rfl (Nat.le_of_ble_eq_true rfl) (Nat.le_of_ble_eq_true rfl) rfl (to_rc rfl rfl rfl (g_o hG (by rcases hp with rfl | rfl <;> rfl))) rfl ?_
        refine to_an (pc := 0) rw_47_0 rfl ?_
        refine s_gR (pc := 1) rw_47_1 hG (by rcases hp with rfl | rfl <;> rfl) (v := (p + 4)) (by rcases hp with rfl | rfl <;> rfl) ?_
        refine to_in (pc := 4) rw_47_4 rfl ?_
        refine s_ial (pc := 5) rw_47_5 hG (by rcases hp with rfl | rfl <;> rfl) (n := 8) (by rcases hp with rfl | rfl <;> rfl) (by rcases hp with rfl | rfl <;> rfl) (A := f.toInt) rfl (by omega) (by omega) (lo := 0) (hi := 63) (by rcases hp with rfl | rfl <;> rfl) (by rcases hp with rfl | rfl <;> rfl) (fun v75 w_76 _ _ => ?_)
        have z_77 := PLc_r g6 4 (by decide) (by decide) (k := f.toInt) (by omega) (by omega) w_76
        refine to_an (pc := 6) rw_47_6 rfl ?_
        refine s_gR (pc := 7) rw_47_7 hG (by rcases hp with rfl | rfl <;> rfl) (v := (p + 3)) (by rcases hp with rfl | rfl <;> rfl) ?_
        refine to_in (pc := 10) rw_47_10 rfl ?_
        refine s_ial (pc := 11) rw_47_11 hG (by rcases hp with rfl | rfl <;> rfl) (n := 8) (by rcases hp with rfl | rfl <;> rfl) (by rcases hp with rfl | rfl <;> rfl) (A := f.toInt) rfl (by omega) (by omega) (lo := 0) (hi := 59) (by rcases hp with rfl | rfl <;> rfl) (by rcases hp with rfl | rfl <;> rfl) (fun v78 w_79 _ _ => ?_)
        have z_80 := PLc_r g6 3 (by decide) (by decide) (k := f.toInt) (by omega) (by omega) w_79
        refine s_sub (pc := 12) rw_47_12 (A := v75.toInt) (B := v78.toInt) rfl rfl (by omega) (fun v81 e82 => ?_)
        refine to_c (pc := 13) rw_47_13 (x := (1 : Int32)) rfl rfl ?_
        refine s_add (pc := 14) rw_47_14 (A := v81.toInt) (B := 1) rfl rfl (by omega) (fun v83 e84 => ?_)
        refine to_r0 (pc := 15) rw_47_15 ?_
        refine to_c (pc := 45) rw_42_45 (x := (1 : Int32)) rfl rfl ?_
        refine s_sub (pc := 46) rw_42_46 (A := v83.toInt) (B := 1) rfl rfl (by omega) (fun v85 e86 => ?_)
        refine to_go (pc := 47) rw_42_47 ?_
        refine to_is (pc := 51) rw_42_51 (ls2 := [.ref p, .ref 1, .int f, .long y3, .null, .int x5, .int v85, u7, u8]) rfl rfl ?_
        refine to_an (pc := 53) rw_42_53 rfl ?_
        refine to_c (pc := 54) rw_42_54 (x := (0 : Int32)) rfl rfl ?_
        refine to_i (pc := 55) rw_42_55 rfl ?_
        refine s_v (pc := 57) rw_42_57 (by omega) (ls0 := [.ref 1, .int (0 : Int32), .int v85]) rfl (Nat.le_of_ble_eq_true rfl) (Nat.le_of_ble_eq_true rfl) rfl (to_rc rfl rfl rfl (g_o hG rfl)) rfl ?_
        have k_87 : (0 : Int32).toInt = 0 := rfl
        refine E_88 hX (by omega) hG g5 (by omega) (l := (0 : Int32)) (m := v85) (t := t) (nn := nn) (a := (N.2.1 1 9).toInt) (fun r88 M95 hG90 F89 p_91 p_92 p_93 p_94 => ?_)
        have F96 := FR.c F0 F89 (fun a i z => show a = 1 ∧ 6 ≤ i ∧ i ≤ 11 ∨ a = p + 8 by have z : a = 1 ∧ (i = 10 ∨ i = 11) := z; omega)
        rcases (show r88.toInt = 0 ∨ r88.toInt = 1 by omega) with h97 | h97
        · skip
          have p_98 := p_94 (by omega)
          clear p_93 p_94
          have z_99 := x_val_b (t := t) (nn := nn) (a := (N.2.1 1 9).toInt)
          refine b_ine_f (pc := 60) rw_42_60 (A := r88.toInt) rfl (by omega) ?_
          refine to_c (pc := 63) rw_42_63 (x := (0 : Int32)) rfl rfl ?_
          refine s_r1 (pc := 64) rw_42_64 (A := 0) rfl (by omega) ?_
          have j_100 := (CS_f (fun a i z => F_n F89 (show ¬ (a = 1 ∧ (i = 10 ∨ i = 11)) by omega) rfl) g5)
          have j_101 := (PLc_f (fun a i z => F_n F89 (show ¬ (a = 1 ∧ (i = 10 ∨ i = 11)) by omega) rfl) (F_nl F89 (show ¬ (p = 1 ∧ (4 = 10 ∨ 4 = 11)) by omega) rfl) g6)
          exact h (0 : Int32) M95 hG90 F96 (by omega) (by omega) j_100 j_101 (fun _ => g7.symm.trans (by first | exact x_rc_n1 (by omega) (by omega) | exact x_rc_n2 (by omega) (by omega) | exact (if g9 : x_kind t nn (N.2.1 1 9).toInt = 3 then x_rc_n1 g9 (by omega) else x_rc_n2 g9 (by omega)))) (fun z => absurd z (by decide))
        · skip
          have p_102 := p_93 (by omega)
          clear p_93 p_94
          have c_103 : M95.2.1 1 8 = (N.2.1 1 8) := (F_n F89 (show ¬ (1 = 1 ∧ (8 = 10 ∨ 8 = 11)) by omega) rfl)
          have z_104 := x_val_b (t := t) (nn := nn) (a := (N.2.1 1 9).toInt) (by omega)
          refine b_ine_t (pc := 60) rw_42_60 (A := r88.toInt) rfl (by omega) ?_
          refine to_cl (pc := 65) rw_42_65 rfl (x := (1 : Int64)) rfl ?_
          refine to_an (pc := 66) rw_42_66 rfl ?_
          refine s_gR (pc := 67) rw_42_67 hG90 (by rcases hp with rfl | rfl <;> rfl) (v := (p + 3)) (by rcases hp with rfl | rfl <;> rfl) ?_
          refine to_in (pc := 70) rw_42_70 rfl ?_
          refine s_ialk (pc := 71) rw_42_71 hG90 (by rcases hp with rfl | rfl <;> rfl) (n := 8) (by rcases hp with rfl | rfl <;> rfl) (by rcases hp with rfl | rfl <;> rfl) (A := f.toInt) rfl (by omega) (by omega) (v := v78) (F_n F89 (show ¬ ((p + 3) = 1 ∧ ((f.toInt).toNat = 10 ∨ (f.toInt).toNat = 11)) by omega) w_79) ?_
          refine to_an (pc := 72) rw_42_72 rfl ?_
          refine tt_gI (pc := 73) rw_42_73 (g_o hG90 rfl) (v := (N.2.1 1 8)) c_103 ?_
          refine s_add (pc := 76) rw_42_76 (A := v78.toInt) (B := (N.2.1 1 8).toInt) rfl rfl (by omega) (fun v107 e108 => ?_)
          refine to_2s (pc := 77) rw_42_77 (v := ((1 : Int64) <<< (v107.toInt64 &&& 63))) rfl ?_
          refine to_ls (pc := 78) rw_42_78 (ls2 := [.ref p, .ref 1, .int f, .long y3, .null, .int x5, .int v85, .long ((1 : Int64) <<< (v107.toInt64 &&& 63)), .null]) rfl rfl ?_
          refine to_ln (pc := 80) rw_42_80 rfl rfl rfl ?_
          refine to_l (pc := 81) rw_42_81 rfl rfl rfl ?_
          refine to_2l (pc := 83) rw_42_83 (v := (y3 &&& ((1 : Int64) <<< (v107.toInt64 &&& 63)))) rfl ?_
          refine to_cl (pc := 84) rw_42_84 rfl (x := (0 : Int64)) rfl ?_
          refine s_lcmpE (pc := 85) rw_42_85 (fun v109 e110 => ?_)
          have b_111 := x_eq_b (x := (y3 &&& ((1 : Int64) <<< (v107.toInt64 &&& 63)))) (y := (0 : Int64))
          have z_112 := x_hit_e (v := v107) (bits := y3) (h := (x_row sg 3 f.toInt + x_val t nn (N.2.1 1 9).toInt))
          refine b_ieq (pc := 86) rw_42_86 (A := v109.toInt) rfl (fun h113 => ?_) (fun h113 => ?_)
          · refine to_ln (pc := 95) rw_42_95 rfl rfl rfl ?_
            refine to_l (pc := 96) rw_42_96 rfl rfl rfl ?_
            refine to_2l (pc := 98) rw_42_98 (v := (y3 ||| ((1 : Int64) <<< (v107.toInt64 &&& 63)))) rfl ?_
            refine to_lsn (pc := 99) rw_42_99 (ls2 := [.ref p, .ref 1, .int f, .long (y3 ||| ((1 : Int64) <<< (v107.toInt64 &&& 63))), .null, .int x5, .int v85, .long ((1 : Int64) <<< (v107.toInt64 &&& 63)), .null]) rfl rfl ?_
            refine s_inc (pc := 100) rw_42_100 (ls2 := fun v => [.ref p, .ref 1, .int f, .long (y3 ||| ((1 : Int64) <<< (v107.toInt64 &&& 63))), .null, .int v, .int v85, .long ((1 : Int64) <<< (v107.toInt64 &&& 63)), .null]) rfl rfl (fun _ => rfl) (A := x5.toInt) (B := 1) rfl rfl (by omega) (fun v114 e115 => ?_)
            refine to_an (pc := 103) rw_42_103 rfl ?_
            refine s_v (pc := 104) rw_42_104 (by omega) (ls0 := [.ref 1]) rfl (Nat.le_of_ble_eq_true rfl) (Nat.le_of_ble_eq_true rfl) rfl (to_rc rfl rfl rfl (g_o hG90 rfl)) rfl ?_
            have j_116 := (CS_f (fun a i z => F_n F89 (show ¬ (a = 1 ∧ (i = 10 ∨ i = 11)) by omega) rfl) g5)
            have c_117 : M95.2.1 1 9 = (N.2.1 1 9) := (F_n F89 (show ¬ (1 = 1 ∧ (9 = 10 ∨ 9 = 11)) by omega) rfl)
            have t_118 : (M95.2.1 1 9).toInt = (N.2.1 1 9).toInt := congrArg Int32.toInt c_117
            refine E_83 hX (by omega) hG90 j_116 (by omega) (t := t) (nn := nn) (a := (N.2.1 1 9).toInt) (fun M123 hG120 F119 p_121 p_122 => ?_)
            have F124 := FR.c F96 F119 (fun a i z => show a = 1 ∧ 6 ≤ i ∧ i ≤ 11 ∨ a = p + 8 by have z : a = 1 ∧ 6 ≤ i ∧ i ≤ 9 := z; omega)
            refine to_go (pc := 107) rw_42_107 ?_
            have c_125 : M123.2.1 p 3 = (N.2.1 p 3) := (F_n F119 (show ¬ (p = 1 ∧ 6 ≤ 3 ∧ 3 ≤ 9) by omega) (F_n F89 (show ¬ (p = 1 ∧ (3 = 10 ∨ 3 = 11)) by omega) rfl))
            have t_126 : (M123.2.1 p 3).toInt = (N.2.1 p 3).toInt := congrArg Int32.toInt c_125
            have j_127 := (PLc_f (fun a i z => F_n F119 (show ¬ (a = 1 ∧ 6 ≤ i ∧ i ≤ 9) by omega) rfl) (F_nl F119 (show ¬ (p = 1 ∧ 6 ≤ 4 ∧ 4 ≤ 9) by omega) rfl) (PLc_f (fun a i z => F_n F89 (show ¬ (a = 1 ∧ (i = 10 ∨ i = 11)) by omega) rfl) (F_nl F89 (show ¬ (p = 1 ∧ (4 = 10 ∨ 4 = 11)) by omega) rfl) g6))
            exact ih M123 (y3 ||| ((1 : Int64) <<< (v107.toInt64 &&& 63))) v114 (.int v85) (.long ((1 : Int64) <<< (v107.toInt64 &&& 63))) (.null) hG120 F124 (by omega) (by omega) (by omega) (by omega) p_121 j_127 (x_rc_s (fu := (6 - x5.toInt).toNat) (told := x5.toInt) (bits := y3) (b := (N.2.1 1 9).toInt) (by omega) (by omega) (by omega) (by omega) (by omega) (congrArg (fun z => y3 ||| z) (x_bit_e (v := v107) (by omega))) g7) (by omega)
          · refine to_an (pc := 89) rw_42_89 rfl ?_
            refine to_c (pc := 90) rw_42_90 (x := (3 : Int32)) rfl rfl ?_
            refine s_v (pc := 91) rw_42_91 (by omega) (ls0 := [.ref 1, .int (3 : Int32)]) rfl (Nat.le_of_ble_eq_true rfl) (Nat.le_of_ble_eq_true rfl) rfl (to_rc rfl rfl rfl (g_o hG90 rfl)) rfl ?_
            refine to_an (pc := 0) rw_84_0 rfl ?_
            refine to_in (pc := 1) rw_84_1 rfl ?_
            refine s_pI (pc := 2) rw_84_2 hG90 rfl (fun M129 W128 => ?_)
            have hG130 := g_wf hG90 W128 rfl rfl (by decide)
            have F131 := FR.w F96 W128 (show 1 = 1 ∧ 6 ≤ 10 ∧ 10 ≤ 11 ∨ 1 = p + 8 by omega)
            refine to_an (pc := 5) rw_84_5 rfl ?_
            refine to_an (pc := 6) rw_84_6 rfl ?_
            have c_132 : M129.2.1 1 9 = (N.2.1 1 9) := (W_n W128 (by decide) (F_n F89 (show ¬ (1 = 1 ∧ (9 = 10 ∨ 9 = 11)) by omega) rfl))
            refine tt_gI (pc := 7) rw_84_7 (g_o hG130 rfl) (v := (N.2.1 1 9)) c_132 ?_
            refine s_pI (pc := 10) rw_84_10 hG130 rfl (fun M134 W133 => ?_)
            have hG135 := g_wf hG130 W133 rfl rfl (by decide)
            have F136 := FR.w F131 W133 (show 1 = 1 ∧ 6 ≤ 11 ∧ 11 ≤ 11 ∨ 1 = p + 8 by omega)
            refine to_c (pc := 13) rw_84_13 (x := (0 : Int32)) rfl rfl ?_
            refine s_r1 (pc := 14) rw_84_14 (A := 0) rfl (by omega) ?_
            refine s_r1 (pc := 94) rw_42_94 (A := 0) rfl (by omega) ?_
            have j_137 := (CS_f (fun a i z => W_n W133 (by omega) rfl) (CS_f (fun a i z => W_n W128 (by omega) rfl) (CS_f (fun a i z => F_n F89 (show ¬ (a = 1 ∧ (i = 10 ∨ i = 11)) by omega) rfl) g5)))
            have j_138 := (PLc_f (fun a i z => W_n W133 (by omega) rfl) (W_j W133 rfl) (PLc_f (fun a i z => W_n W128 (by omega) rfl) (W_j W128 rfl) (PLc_f (fun a i z => F_n F89 (show ¬ (a = 1 ∧ (i = 10 ∨ i = 11)) by omega) rfl) (F_nl F89 (show ¬ (p = 1 ∧ (4 = 10 ∨ 4 = 11)) by omega) rfl) g6)))
            exact h (0 : Int32) M134 hG135 F136 (by omega) (by omega) j_137 j_138 (fun _ => g7.symm.trans (by first | exact x_rc_n1 (by omega) (by omega) | exact x_rc_n2 (by omega) (by omega) | exact (if g9 : x_kind t nn (N.2.1 1 9).toInt = 3 then x_rc_n1 g9 (by omega) else x_rc_n2 g9 (by omega)))) (fun z => absurd z (by decide))
    · refine to_i (pc := 10) rw_42_10 rfl ?_
      refine to_an (pc := 12) rw_42_12 rfl ?_
      refine s_gR (pc := 13) rw_42_13 hG (by rcases hp with rfl | rfl <;> rfl) (v := (p + 5)) (by rcases hp with rfl | rfl <;> rfl) ?_
      refine to_in (pc := 16) rw_42_16 rfl ?_
      refine s_ial (pc := 17) rw_42_17 hG (by rcases hp with rfl | rfl <;> rfl) (n := 8) (by rcases hp with rfl | rfl <;> rfl) (by rcases hp with rfl | rfl <;> rfl) (A := f.toInt) rfl (by omega) (by omega) (lo := 0) (hi := 24) (by rcases hp with rfl | rfl <;> rfl) (by rcases hp with rfl | rfl <;> rfl) (fun v139 w_140 _ _ => ?_)
      have z_141 := PLc_r g6 5 (by decide) (by decide) (k := f.toInt) (by omega) (by omega) w_140
      refine b_cgt (pc := 18) rw_42_18 (A := x5.toInt) (B := v139.toInt) rfl rfl (fun h142 => ?_) (fun h142 => ?_)
      · refine to_an (pc := 110) rw_42_110 rfl ?_
        refine s_gR (pc := 111) rw_42_111 hG (by rcases hp with rfl | rfl <;> rfl) (v := (p + 8)) (by rcases hp with rfl | rfl <;> rfl) ?_
        refine to_an (pc := 114) rw_42_114 rfl ?_
        refine tt_gI (pc := 115) rw_42_115 (g_o hG (by rcases hp with rfl | rfl <;> rfl)) (v := (N.2.1 p 3)) rfl ?_
        refine to_ln (pc := 118) rw_42_118 rfl rfl rfl ?_
        refine s_las (pc := 119) rw_42_119 hG (by rcases hp with rfl | rfl <;> rfl) (n := 12) (by rcases hp with rfl | rfl <;> rfl) (A := (N.2.1 p 3).toInt) rfl (by omega) (by omega) (fun M144 W143 => ?_)
        have hG145 := g_wl hG W143
        have F146 := FR.wl F0 W143 (show (p + 8) = 1 ∧ 6 ≤ ((N.2.1 p 3).toInt).toNat ∧ ((N.2.1 p 3).toInt).toNat ≤ 11 ∨ (p + 8) = p + 8 by omega)
        refine to_i (pc := 120) rw_42_120 rfl ?_
        refine to_an (pc := 122) rw_42_122 rfl ?_
        refine s_gR (pc := 123) rw_42_123 hG145 (by rcases hp with rfl | rfl <;> rfl) (v := (p + 5)) (by rcases hp with rfl | rfl <;> rfl) ?_
        refine to_in (pc := 126) rw_42_126 rfl ?_
        refine s_ialk (pc := 127) rw_42_127 hG145 (by rcases hp with rfl | rfl <;> rfl) (n := 8) (by rcases hp with rfl | rfl <;> rfl) (by rcases hp with rfl | rfl <;> rfl) (A := f.toInt) rfl (by omega) (by omega) (v := v139) (W_l W143 w_140) ?_
        refine b_ceq (pc := 128) rw_42_128 (A := x5.toInt) (B := v139.toInt) rfl rfl (fun h149 => ?_) (fun h149 => ?_)
        · refine to_c (pc := 148) rw_42_148 (x := (1 : Int32)) rfl rfl ?_
          refine to_go (pc := 149) rw_42_149 ?_
          refine s_r1 (pc := 153) rw_42_153 (A := 1) rfl (by omega) ?_
          have k_150 : (1 : Int32).toInt = 1 := rfl
          have j_151 := (CS_f (fun a i z => W_l W143 rfl) g5)
          have j_152 := (PLc_f (fun a i z => W_l W143 rfl) (L_n W143 (by omega) rfl) g6)
          have c_153 : M144.2.1 1 9 = (N.2.1 1 9) := (W_l W143 rfl)
          have t_154 : (M144.2.1 1 9).toInt = (N.2.1 1 9).toInt := congrArg Int32.toInt c_153
          exact h (1 : Int32) M144 hG145 F146 (by omega) (by omega) j_151 j_152 (fun z => absurd z (by decide)) (fun _ => by rw [show (M144.2.1 1 9).toInt = (N.2.1 1 9).toInt by omega, ← g7]; first | exact Or.inl (x_rc_y (by omega) (by omega) (by omega)) | exact Or.inr ⟨x_rc_n2 (by omega) (by omega), by omega⟩)
        · refine to_an (pc := 131) rw_42_131 rfl ?_
          have c_155 : M144.2.1 1 7 = (N.2.1 1 7) := (W_l W143 rfl)
          have t_156 : (M144.2.1 1 7).toInt = (N.2.1 1 7).toInt := congrArg Int32.toInt c_155
          have c_157 : M144.2.1 1 8 = (N.2.1 1 8) := (W_l W143 rfl)
          have t_158 : (M144.2.1 1 8).toInt = (N.2.1 1 8).toInt := congrArg Int32.toInt c_157
          have c_159 : M144.2.1 1 9 = (N.2.1 1 9) := (W_l W143 rfl)
          have t_160 : (M144.2.1 1 9).toInt = (N.2.1 1 9).toInt := congrArg Int32.toInt c_159
          have j_161 := (CS_f (fun a i z => W_l W143 rfl) g5)
          have c_162 := CS_u j_161 (a := (N.2.1 1 9).toInt) (by omega)
          unfold x_C at c_162
          refine tt_gI (pc := 132) rw_42_132 (g_o hG145 rfl) (v := (N.2.1 1 7)) c_155 ?_
          refine to_c (pc := 135) rw_42_135 (x := (59 : Int32)) rfl rfl ?_
          refine b_cne (pc := 137) rw_42_137 (A := (N.2.1 1 7).toInt) (B := 59) rfl rfl (fun h163 => ?_) (fun h163 => ?_)
          · refine to_c (pc := 148) rw_42_148 (x := (1 : Int32)) rfl rfl ?_
            refine to_go (pc := 149) rw_42_149 ?_
            refine s_r1 (pc := 153) rw_42_153 (A := 1) rfl (by omega) ?_
            have k_164 : (1 : Int32).toInt = 1 := rfl
            have j_165 := (PLc_f (fun a i z => W_l W143 rfl) (L_n W143 (by omega) rfl) g6)
            exact h (1 : Int32) M144 hG145 F146 (by omega) (by omega) j_161 j_165 (fun z => absurd z (by decide)) (fun _ => by rw [show (M144.2.1 1 9).toInt = (N.2.1 1 9).toInt by omega, ← g7]; first | exact Or.inl (x_rc_y (by omega) (by omega) (by omega)) | exact Or.inr ⟨x_rc_n2 (by omega) (by omega), by omega⟩)
          · refine to_an (pc := 140) rw_42_140 rfl ?_
            refine to_c (pc := 141) rw_42_141 (x := (5 : Int32)) rfl rfl ?_
            refine s_v (pc := 142) rw_42_142 (by omega) (ls0 := [.ref 1, .int (5 : Int32)]) rfl (Nat.le_of_ble_eq_true rfl) (Nat.le_of_ble_eq_true rfl) rfl (to_rc rfl rfl rfl (g_o hG145 rfl)) rfl ?_
            refine to_an (pc := 0) rw_84_0 rfl ?_
            refine to_in (pc := 1) rw_84_1 rfl ?_
            refine s_pI (pc := 2) rw_84_2 hG145 rfl (fun M167 W166 => ?_)
            have hG168 := g_wf hG145 W166 rfl rfl (by decide)
            have F169 := FR.w F146 W166 (show 1 = 1 ∧ 6 ≤ 10 ∧ 10 ≤ 11 ∨ 1 = p + 8 by omega)
            refine to_an (pc := 5) rw_84_5 rfl ?_
            refine to_an (pc := 6) rw_84_6 rfl ?_
            have c_170 : M167.2.1 1 9 = (N.2.1 1 9) := (W_n W166 (by decide) c_159)
            refine tt_gI (pc := 7) rw_84_7 (g_o hG168 rfl) (v := (N.2.1 1 9)) c_170 ?_
            refine s_pI (pc := 10) rw_84_10 hG168 rfl (fun M172 W171 => ?_)
            have hG173 := g_wf hG168 W171 rfl rfl (by decide)
            have F174 := FR.w F169 W171 (show 1 = 1 ∧ 6 ≤ 11 ∧ 11 ≤ 11 ∨ 1 = p + 8 by omega)
            refine to_c (pc := 13) rw_84_13 (x := (0 : Int32)) rfl rfl ?_
            refine s_r1 (pc := 14) rw_84_14 (A := 0) rfl (by omega) ?_
            refine b_ieq_t (pc := 145) rw_42_145 (A := 0) rfl (by omega) ?_
            refine to_c (pc := 152) rw_42_152 (x := (0 : Int32)) rfl rfl ?_
            refine s_r1 (pc := 153) rw_42_153 (A := 0) rfl (by omega) ?_
            have k_175 : (0 : Int32).toInt = 0 := rfl
            have j_176 := (CS_f (fun a i z => W_n W171 (by omega) rfl) (CS_f (fun a i z => W_n W166 (by omega) rfl) j_161))
            have j_177 := (PLc_f (fun a i z => W_n W171 (by omega) rfl) (W_j W171 rfl) (PLc_f (fun a i z => W_n W166 (by omega) rfl) (W_j W166 rfl) (PLc_f (fun a i z => W_l W143 rfl) (L_n W143 (by omega) rfl) g6)))
            exact h (0 : Int32) M172 hG173 F174 (by omega) (by omega) j_176 j_177 (fun _ => g7.symm.trans (by first | exact x_rc_n1 (by omega) (by omega) | exact x_rc_n2 (by omega) (by omega) | exact (if g9 : x_kind t nn (N.2.1 1 9).toInt = 3 then x_rc_n1 g9 (by omega) else x_rc_n2 g9 (by omega)))) (fun z => absurd z (by decide))
      · refine to_an (pc := 21) rw_42_21 rfl ?_
        have c_178 := CS_u g5 (a := (N.2.1 1 9).toInt) (by omega)
        unfold x_C at c_178
        refine tt_gI (pc := 22) rw_42_22 (g_o hG rfl) (v := (N.2.1 1 7)) rfl ?_
        refine to_c (pc := 25) rw_42_25 (x := (2 : Int32)) rfl rfl ?_
        refine b_cne (pc := 26) rw_42_26 (A := (N.2.1 1 7).toInt) (B := 2) rfl rfl (fun h179 => ?_) (fun h179 => ?_)
        · refine to_an (pc := 110) rw_42_110 rfl ?_
          refine s_gR (pc := 111) rw_42_111 hG (by rcases hp with rfl | rfl <;> rfl) (v := (p + 8)) (by rcases hp with rfl | rfl <;> rfl) ?_
          refine to_an (pc := 114) rw_42_114 rfl ?_
          refine tt_gI (pc := 115) rw_42_115 (g_o hG (by rcases hp with rfl | rfl <;> rfl)) (v := (N.2.1 p 3)) rfl ?_
          refine to_ln (pc := 118) rw_42_118 rfl rfl rfl ?_
          refine s_las (pc := 119) rw_42_119 hG (by rcases hp with rfl | rfl <;> rfl) (n := 12) (by rcases hp with rfl | rfl <;> rfl) (A := (N.2.1 p 3).toInt) rfl (by omega) (by omega) (fun M181 W180 => ?_)
          have hG182 := g_wl hG W180
          have F183 := FR.wl F0 W180 (show (p + 8) = 1 ∧ 6 ≤ ((N.2.1 p 3).toInt).toNat ∧ ((N.2.1 p 3).toInt).toNat ≤ 11 ∨ (p + 8) = p + 8 by omega)
          refine to_i (pc := 120) rw_42_120 rfl ?_
          refine to_an (pc := 122) rw_42_122 rfl ?_
          refine s_gR (pc := 123) rw_42_123 hG182 (by rcases hp with rfl | rfl <;> rfl) (v := (p + 5)) (by rcases hp with rfl | rfl <;> rfl) ?_
          refine to_in (pc := 126) rw_42_126 rfl ?_
          refine s_ialk (pc := 127) rw_42_127 hG182 (by rcases hp with rfl | rfl <;> rfl) (n := 8) (by rcases hp with rfl | rfl <;> rfl) (by rcases hp with rfl | rfl <;> rfl) (A := f.toInt) rfl (by omega) (by omega) (v := v139) (W_l W180 w_140) ?_
          refine b_ceq (pc := 128) rw_42_128 (A := x5.toInt) (B := v139.toInt) rfl rfl (fun h186 => ?_) (fun h186 => ?_)
          · refine to_c (pc := 148) rw_42_148 (x := (1 : Int32)) rfl rfl ?_
            refine to_go (pc := 149) rw_42_149 ?_
            refine s_r1 (pc := 153) rw_42_153 (A := 1) rfl (by omega) ?_
            have k_187 : (1 : Int32).toInt = 1 := rfl
            have j_188 := (CS_f (fun a i z => W_l W180 rfl) g5)
            have j_189 := (PLc_f (fun a i z => W_l W180 rfl) (L_n W180 (by omega) rfl) g6)
            have c_190 : M181.2.1 1 9 = (N.2.1 1 9) := (W_l W180 rfl)
            have t_191 : (M181.2.1 1 9).toInt = (N.2.1 1 9).toInt := congrArg Int32.toInt c_190
            exact h (1 : Int32) M181 hG182 F183 (by omega) (by omega) j_188 j_189 (fun z => absurd z (by decide)) (fun _ => by rw [show (M181.2.1 1 9).toInt = (N.2.1 1 9).toInt by omega, ← g7]; first | exact Or.inl (x_rc_y (by omega) (by omega) (by omega)) | exact Or.inr ⟨x_rc_n2 (by omega) (by omega), by omega⟩)
          · refine to_an (pc := 131) rw_42_131 rfl ?_
            have c_192 : M181.2.1 1 7 = (N.2.1 1 7) := (W_l W180 rfl)
            have t_193 : (M181.2.1 1 7).toInt = (N.2.1 1 7).toInt := congrArg Int32.toInt c_192
            have c_194 : M181.2.1 1 8 = (N.2.1 1 8) := (W_l W180 rfl)
            have t_195 : (M181.2.1 1 8).toInt = (N.2.1 1 8).toInt := congrArg Int32.toInt c_194
            have c_196 : M181.2.1 1 9 = (N.2.1 1 9) := (W_l W180 rfl)
            have t_197 : (M181.2.1 1 9).toInt = (N.2.1 1 9).toInt := congrArg Int32.toInt c_196
            have j_198 := (CS_f (fun a i z => W_l W180 rfl) g5)
            have c_199 := CS_u j_198 (a := (N.2.1 1 9).toInt) (by omega)
            unfold x_C at c_199
            refine tt_gI (pc := 132) rw_42_132 (g_o hG182 rfl) (v := (N.2.1 1 7)) c_192 ?_
            refine to_c (pc := 135) rw_42_135 (x := (59 : Int32)) rfl rfl ?_
            refine b_cne (pc := 137) rw_42_137 (A := (N.2.1 1 7).toInt) (B := 59) rfl rfl (fun h200 => ?_) (fun h200 => ?_)
            · refine to_c (pc := 148) rw_42_148 (x := (1 : Int32)) rfl rfl ?_
              refine to_go (pc := 149) rw_42_149 ?_
              refine s_r1 (pc := 153) rw_42_153 (A := 1) rfl (by omega) ?_
              have k_201 : (1 : Int32).toInt = 1 := rfl
              have j_202 := (PLc_f (fun a i z => W_l W180 rfl) (L_n W180 (by omega) rfl) g6)
              exact h (1 : Int32) M181 hG182 F183 (by omega) (by omega) j_198 j_202 (fun z => absurd z (by decide)) (fun _ => by rw [show (M181.2.1 1 9).toInt = (N.2.1 1 9).toInt by omega, ← g7]; first | exact Or.inl (x_rc_y (by omega) (by omega) (by omega)) | exact Or.inr ⟨x_rc_n2 (by omega) (by omega), by omega⟩)
            · refine to_an (pc := 140) rw_42_140 rfl ?_
              refine to_c (pc := 141) rw_42_141 (x := (5 : Int32)) rfl rfl ?_
              refine s_v (pc := 142) rw_42_142 (by omega) (ls0 := [.ref 1, .int (5 : Int32)]) rfl (Nat.le_of_ble_eq_true rfl) (Nat.le_of_ble_eq_true rfl) rfl (to_rc rfl rfl rfl (g_o hG182 rfl)) rfl ?_
              refine to_an (pc := 0) rw_84_0 rfl ?_
              refine to_in (pc := 1) rw_84_1 rfl ?_
              refine s_pI (pc := 2) rw_84_2 hG182 rfl (fun M204 W203 => ?_)
              have hG205 := g_wf hG182 W203 rfl rfl (by decide)
              have F206 := FR.w F183 W203 (show 1 = 1 ∧ 6 ≤ 10 ∧ 10 ≤ 11 ∨ 1 = p + 8 by omega)
              refine to_an (pc := 5) rw_84_5 rfl ?_
              refine to_an (pc := 6) rw_84_6 rfl ?_
              have c_207 : M204.2.1 1 9 = (N.2.1 1 9) := (W_n W203 (by decide) c_196)
              refine tt_gI (pc := 7) rw_84_7 (g_o hG205 rfl) (v := (N.2.1 1 9)) c_207 ?_
              refine s_pI (pc := 10) rw_84_10 hG205 rfl (fun M209 W208 => ?_)
              have hG210 := g_wf hG205 W208 rfl rfl (by decide)
              have F211 := FR.w F206 W208 (show 1 = 1 ∧ 6 ≤ 11 ∧ 11 ≤ 11 ∨ 1 = p + 8 by omega)
              refine to_c (pc := 13) rw_84_13 (x := (0 : Int32)) rfl rfl ?_
              refine s_r1 (pc := 14) rw_84_14 (A := 0) rfl (by omega) ?_
              refine b_ieq_t (pc := 145) rw_42_145 (A := 0) rfl (by omega) ?_
              refine to_c (pc := 152) rw_42_152 (x := (0 : Int32)) rfl rfl ?_
              refine s_r1 (pc := 153) rw_42_153 (A := 0) rfl (by omega) ?_
              have k_212 : (0 : Int32).toInt = 0 := rfl
              have j_213 := (CS_f (fun a i z => W_n W208 (by omega) rfl) (CS_f (fun a i z => W_n W203 (by omega) rfl) j_198))
              have j_214 := (PLc_f (fun a i z => W_n W208 (by omega) rfl) (W_j W208 rfl) (PLc_f (fun a i z => W_n W203 (by omega) rfl) (W_j W203 rfl) (PLc_f (fun a i z => W_l W180 rfl) (L_n W180 (by omega) rfl) g6)))
              exact h (0 : Int32) M209 hG210 F211 (by omega) (by omega) j_213 j_214 (fun _ => g7.symm.trans (by first | exact x_rc_n1 (by omega) (by omega) | exact x_rc_n2 (by omega) (by omega) | exact (if g9 : x_kind t nn (N.2.1 1 9).toInt = 3 then x_rc_n1 g9 (by omega) else x_rc_n2 g9 (by omega)))) (fun z => absurd z (by decide))
        · refine to_i (pc := 29) rw_42_29 rfl ?_
          refine to_an (pc := 31) rw_42_31 rfl ?_
          refine s_gR (pc := 32) rw_42_32 hG (by rcases hp with rfl | rfl <;> rfl) (v := (p + 5)) (by rcases hp with rfl | rfl <;> rfl) ?_
          refine to_in (pc := 35) rw_42_35 rfl ?_
          refine s_ialk (pc := 36) rw_42_36 hG (by rcases hp with rfl | rfl <;> rfl) (n := 8) (by rcases hp with rfl | rfl <;> rfl) (by rcases hp with rfl | rfl <;> rfl) (A := f.toInt) rfl (by omega) (by omega) (v := v139) w_140 ?_
          refine b_cge (pc := 37) rw_42_37 (A := x5.toInt) (B := v139.toInt) rfl rfl (fun h217 => ?_) (fun h217 => ?_)
          · refine to_c (pc := 50) rw_42_50 (x := (-1 : Int32)) rfl rfl ?_
            refine to_is (pc := 51) rw_42_51 (ls2 := [.ref p, .ref 1, .int f, .long y3, .null, .int x5, .int (-1 : Int32), u7, u8]) rfl rfl ?_
            refine to_an (pc := 53) rw_42_53 rfl ?_
            refine to_c (pc := 54) rw_42_54 (x := (0 : Int32)) rfl rfl ?_
            refine to_i (pc := 55) rw_42_55 rfl ?_
            refine s_v (pc := 57) rw_42_57 (by omega) (ls0 := [.ref 1, .int (0 : Int32), .int (-1 : Int32)]) rfl (Nat.le_of_ble_eq_true rfl) (Nat.le_of_ble_eq_true rfl) rfl (to_rc rfl rfl rfl (g_o hG rfl)) rfl ?_
            have k_218 : (0 : Int32).toInt = 0 := rfl
            have k_219 : (-1 : Int32).toInt = -1 := rfl
            refine E_88 hX (by omega) hG g5 (by omega) (l := (0 : Int32)) (m := (-1 : Int32)) (t := t) (nn := nn) (a := (N.2.1 1 9).toInt) (fun r220 M227 hG222 F221 p_223 p_224 p_225 p_226 => ?_)
            have F228 := FR.c F0 F221 (fun a i z => show a = 1 ∧ 6 ≤ i ∧ i ≤ 11 ∨ a = p + 8 by have z : a = 1 ∧ (i = 10 ∨ i = 11) := z; omega)
            rcases (show r220.toInt = 0 ∨ r220.toInt = 1 by omega) with h229 | h229
            · skip
              have p_230 := p_226 (by omega)
              clear p_225 p_226
              have z_231 := x_val_b (t := t) (nn := nn) (a := (N.2.1 1 9).toInt)
              refine b_ine_f (pc := 60) rw_42_60 (A := r220.toInt) rfl (by omega) ?_
              refine to_c (pc := 63) rw_42_63 (x := (0 : Int32)) rfl rfl ?_
              refine s_r1 (pc := 64) rw_42_64 (A := 0) rfl (by omega) ?_
              have j_232 := (CS_f (fun a i z => F_n F221 (show ¬ (a = 1 ∧ (i = 10 ∨ i = 11)) by omega) rfl) g5)
              have j_233 := (PLc_f (fun a i z => F_n F221 (show ¬ (a = 1 ∧ (i = 10 ∨ i = 11)) by omega) rfl) (F_nl F221 (show ¬ (p = 1 ∧ (4 = 10 ∨ 4 = 11)) by omega) rfl) g6)
              exact h (0 : Int32) M227 hG222 F228 (by omega) (by omega) j_232 j_233 (fun _ => g7.symm.trans (by first | exact x_rc_n1 (by omega) (by omega) | exact x_rc_n2 (by omega) (by omega) | exact (if g9 : x_kind t nn (N.2.1 1 9).toInt = 3 then x_rc_n1 g9 (by omega) else x_rc_n2 g9 (by omega)))) (fun z => absurd z (by decide))
            · skip
              have p_234 := p_225 (by omega)
              clear p_225 p_226
              have c_235 : M227.2.1 1 8 = (N.2.1 1 8) := (F_n F221 (show ¬ (1 = 1 ∧ (8 = 10 ∨ 8 = 11)) by omega) rfl)
              have z_236 := x_val_b (t := t) (nn := nn) (a := (N.2.1 1 9).toInt) (by omega)
              refine b_ine_t (pc := 60) rw_42_60 (A := r220.toInt) rfl (by omega) ?_
              refine to_cl (pc := 65) rw_42_65 rfl (x := (1 : Int64)) rfl ?_
              refine to_an (pc := 66) rw_42_66 rfl ?_
              refine s_gR (pc := 67) rw_42_67 hG222 (by rcases hp with rfl | rfl <;> rfl) (v := (p + 3)) (by rcases hp with rfl | rfl <;> rfl) ?_
              refine to_in (pc := 70) rw_42_70 rfl ?_
              refine s_ial (pc := 71) rw_42_71 hG222 (by rcases hp with rfl | rfl <;> rfl) (n := 8) (by rcases hp with rfl | rfl <;> rfl) (by rcases hp with rfl | rfl <;> rfl) (A := f.toInt) rfl (by omega) (by omega) (lo := 0) (hi := 59) (by rcases hp with rfl | rfl <;> rfl) (by rcases hp with rfl | rfl <;> rfl) (fun v237 w_238 _ _ => ?_)
              have j_239 := (PLc_f (fun a i z => F_n F221 (show ¬ (a = 1 ∧ (i = 10 ∨ i = 11)) by omega) rfl) (F_nl F221 (show ¬ (p = 1 ∧ (4 = 10 ∨ 4 = 11)) by omega) rfl) g6)
              have z_240 := PLc_r j_239 3 (by decide) (by decide) (k := f.toInt) (by omega) (by omega) w_238
              refine to_an (pc := 72) rw_42_72 rfl ?_
              refine tt_gI (pc := 73) rw_42_73 (g_o hG222 rfl) (v := (N.2.1 1 8)) c_235 ?_
              refine s_add (pc := 76) rw_42_76 (A := v237.toInt) (B := (N.2.1 1 8).toInt) rfl rfl (by omega) (fun v241 e242 => ?_)
              refine to_2s (pc := 77) rw_42_77 (v := ((1 : Int64) <<< (v241.toInt64 &&& 63))) rfl ?_
              refine to_ls (pc := 78) rw_42_78 (ls2 := [.ref p, .ref 1, .int f, .long y3, .null, .int x5, .int (-1 : Int32), .long ((1 : Int64) <<< (v241.toInt64 &&& 63)), .null]) rfl rfl ?_
              refine to_ln (pc := 80) rw_42_80 rfl rfl rfl ?_
              refine to_l (pc := 81) rw_42_81 rfl rfl rfl ?_
              refine to_2l (pc := 83) rw_42_83 (v := (y3 &&& ((1 : Int64) <<< (v241.toInt64 &&& 63)))) rfl ?_
              refine to_cl (pc := 84) rw_42_84 rfl (x := (0 : Int64)) rfl ?_
              refine s_lcmpE (pc := 85) rw_42_85 (fun v243 e244 => ?_)
              have b_245 := x_eq_b (x := (y3 &&& ((1 : Int64) <<< (v241.toInt64 &&& 63)))) (y := (0 : Int64))
              have z_246 := x_hit_e (v := v241) (bits := y3) (h := (x_row sg 3 f.toInt + x_val t nn (N.2.1 1 9).toInt))
              refine b_ieq (pc := 86) rw_42_86 (A := v243.toInt) rfl (fun h247 => ?_) (fun h247 => ?_)
              · refine to_ln (pc := 95) rw_42_95 rfl rfl rfl ?_
                refine to_l (pc := 96) rw_42_96 rfl rfl rfl ?_
                refine to_2l (pc := 98) rw_42_98 (v := (y3 ||| ((1 : Int64) <<< (v241.toInt64 &&& 63)))) rfl ?_
                refine to_lsn (pc := 99) rw_42_99 (ls2 := [.ref p, .ref 1, .int f, .long (y3 ||| ((1 : Int64) <<< (v241.toInt64 &&& 63))), .null, .int x5, .int (-1 : Int32), .long ((1 : Int64) <<< (v241.toInt64 &&& 63)), .null]) rfl rfl ?_
                refine s_inc (pc := 100) rw_42_100 (ls2 := fun v => [.ref p, .ref 1, .int f, .long (y3 ||| ((1 : Int64) <<< (v241.toInt64 &&& 63))), .null, .int v, .int (-1 : Int32), .long ((1 : Int64) <<< (v241.toInt64 &&& 63)), .null]) rfl rfl (fun _ => rfl) (A := x5.toInt) (B := 1) rfl rfl (by omega) (fun v248 e249 => ?_)
                refine to_an (pc := 103) rw_42_103 rfl ?_
                refine s_v (pc := 104) rw_42_104 (by omega) (ls0 := [.ref 1]) rfl (Nat.le_of_ble_eq_true rfl) (Nat.le_of_ble_eq_true rfl) rfl (to_rc rfl rfl rfl (g_o hG222 rfl)) rfl ?_
                have j_250 := (CS_f (fun a i z => F_n F221 (show ¬ (a = 1 ∧ (i = 10 ∨ i = 11)) by omega) rfl) g5)
                have c_251 : M227.2.1 1 9 = (N.2.1 1 9) := (F_n F221 (show ¬ (1 = 1 ∧ (9 = 10 ∨ 9 = 11)) by omega) rfl)
                have t_252 : (M227.2.1 1 9).toInt = (N.2.1 1 9).toInt := congrArg Int32.toInt c_251
                refine E_83 hX (by omega) hG222 j_250 (by omega) (t := t) (nn := nn) (a := (N.2.1 1 9).toInt) (fun M257 hG254 F253 p_255 p_256 => ?_)
                have F258 := FR.c F228 F253 (fun a i z => show a = 1 ∧ 6 ≤ i ∧ i ≤ 11 ∨ a = p + 8 by have z : a = 1 ∧ 6 ≤ i ∧ i ≤ 9 := z; omega)
                refine to_go (pc := 107) rw_42_107 ?_
                have c_259 : M257.2.1 p 3 = (N.2.1 p 3) := (F_n F253 (show ¬ (p = 1 ∧ 6 ≤ 3 ∧ 3 ≤ 9) by omega) (F_n F221 (show ¬ (p = 1 ∧ (3 = 10 ∨ 3 = 11)) by omega) rfl))
                have t_260 : (M257.2.1 p 3).toInt = (N.2.1 p 3).toInt := congrArg Int32.toInt c_259
                have j_261 := (PLc_f (fun a i z => F_n F253 (show ¬ (a = 1 ∧ 6 ≤ i ∧ i ≤ 9) by omega) rfl) (F_nl F253 (show ¬ (p = 1 ∧ 6 ≤ 4 ∧ 4 ≤ 9) by omega) rfl) j_239)
                exact ih M257 (y3 ||| ((1 : Int64) <<< (v241.toInt64 &&& 63))) v248 (.int (-1 : Int32)) (.long ((1 : Int64) <<< (v241.toInt64 &&& 63))) (.null) hG254 F258 (by omega) (by omega) (by omega) (by omega) p_255 j_261 (x_rc_s (fu := (6 - x5.toInt).toNat) (told := x5.toInt) (bits := y3) (b := (N.2.1 1 9).toInt) (by omega) (by omega) (by omega) (by omega) (by omega) (congrArg (fun z => y3 ||| z) (x_bit_e (v := v241) (by omega))) g7) (by omega)
              · refine to_an (pc := 89) rw_42_89 rfl ?_
                refine to_c (pc := 90) rw_42_90 (x := (3 : Int32)) rfl rfl ?_
                refine s_v (pc := 91) rw_42_91 (by omega) (ls0 := [.ref 1, .int (3 : Int32)]) rfl (Nat.le_of_ble_eq_true rfl) (Nat.le_of_ble_eq_true rfl) rfl (to_rc rfl rfl rfl (g_o hG222 rfl)) rfl ?_
                refine to_an (pc := 0) rw_84_0 rfl ?_
                refine to_in (pc := 1) rw_84_1 rfl ?_
                refine s_pI (pc := 2) rw_84_2 hG222 rfl (fun M263 W262 => ?_)
                have hG264 := g_wf hG222 W262 rfl rfl (by decide)
                have F265 := FR.w F228 W262 (show 1 = 1 ∧ 6 ≤ 10 ∧ 10 ≤ 11 ∨ 1 = p + 8 by omega)
                refine to_an (pc := 5) rw_84_5 rfl ?_
                refine to_an (pc := 6) rw_84_6 rfl ?_
                have c_266 : M263.2.1 1 9 = (N.2.1 1 9) := (W_n W262 (by decide) (F_n F221 (show ¬ (1 = 1 ∧ (9 = 10 ∨ 9 = 11)) by omega) rfl))
                refine tt_gI (pc := 7) rw_84_7 (g_o hG264 rfl) (v := (N.2.1 1 9)) c_266 ?_
                refine s_pI (pc := 10) rw_84_10 hG264 rfl (fun M268 W267 => ?_)
                have hG269 := g_wf hG264 W267 rfl rfl (by decide)
                have F270 := FR.w F265 W267 (show 1 = 1 ∧ 6 ≤ 11 ∧ 11 ≤ 11 ∨ 1 = p + 8 by omega)
                refine to_c (pc := 13) rw_84_13 (x := (0 : Int32)) rfl rfl ?_
                refine s_r1 (pc := 14) rw_84_14 (A := 0) rfl (by omega) ?_
                refine s_r1 (pc := 94) rw_42_94 (A := 0) rfl (by omega) ?_
                have j_271 := (CS_f (fun a i z => W_n W267 (by omega) rfl) (CS_f (fun a i z => W_n W262 (by omega) rfl) (CS_f (fun a i z => F_n F221 (show ¬ (a = 1 ∧ (i = 10 ∨ i = 11)) by omega) rfl) g5)))
                have j_272 := (PLc_f (fun a i z => W_n W267 (by omega) rfl) (W_j W267 rfl) (PLc_f (fun a i z => W_n W262 (by omega) rfl) (W_j W262 rfl) j_239))
                exact h (0 : Int32) M268 hG269 F270 (by omega) (by omega) j_271 j_272 (fun _ => g7.symm.trans (by first | exact x_rc_n1 (by omega) (by omega) | exact x_rc_n2 (by omega) (by omega) | exact (if g9 : x_kind t nn (N.2.1 1 9).toInt = 3 then x_rc_n1 g9 (by omega) else x_rc_n2 g9 (by omega)))) (fun z => absurd z (by decide))
          · refine to_an (pc := 40) rw_42_40 rfl ?_
            refine to_in (pc := 41) rw_42_41 rfl ?_
            refine s_v (pc := 42) rw_42_42 (by omega) (ls0 := [.ref p, .int f]) rfl (Nat.le_of_ble_eq_true rfl) (Nat.le_of_ble_eq_true rfl) rfl (to_rc rfl rfl rfl (g_o hG (by rcases hp with rfl | rfl <;> rfl))) rfl ?_
            refine to_an (pc := 0) rw_47_0 rfl ?_
            refine s_gR (pc := 1) rw_47_1 hG (by rcases hp with rfl | rfl <;> rfl) (v := (p + 4)) (by rcases hp with rfl | rfl <;> rfl) ?_
            refine to_in (pc := 4) rw_47_4 rfl ?_
            refine s_ial (pc := 5) rw_47_5 hG (by rcases hp with rfl | rfl <;> rfl) (n := 8) (by rcases hp with rfl | rfl <;> rfl) (by rcases hp with rfl | rfl <;> rfl) (A := f.toInt) rfl (by omega) (by omega) (lo := 0) (hi := 63) (by rcases hp with rfl | rfl <;> rfl) (by rcases hp with rfl | rfl <;> rfl) (fun v273 w_274 _ _ => ?_)
            have z_275 := PLc_r g6 4 (by decide) (by decide) (k := f.toInt) (by omega) (by omega) w_274
            refine to_an (pc := 6) rw_47_6 rfl ?_
            refine s_gR (pc := 7) rw_47_7 hG (by rcases hp with rfl | rfl <;> rfl) (v := (p + 3)) (by rcases hp with rfl | rfl <;> rfl) ?_
            refine to_in (pc := 10) rw_47_10 rfl ?_
            refine s_ial (pc := 11) rw_47_11 hG (by rcases hp with rfl | rfl <;> rfl) (n := 8) (by rcases hp with rfl | rfl <;> rfl) (by rcases hp with rfl | rfl <;> rfl) (A := f.toInt) rfl (by omega) (by omega) (lo := 0) (hi := 59) (by rcases hp with rfl | rfl <;> rfl) (by rcases hp with rfl | rfl <;> rfl) (fun v276 w_277 _ _ => ?_)
            have z_278 := PLc_r g6 3 (by decide) (by decide) (k := f.toInt) (by omega) (by omega) w_277
            refine s_sub (pc := 12) rw_47_12 (A := v273.toInt) (B := v276.toInt) rfl rfl (by omega) (fun v279 e280 => ?_)
            refine to_c (pc := 13) rw_47_13 (x := (1 : Int32)) rfl rfl ?_
            refine s_add (pc := 14) rw_47_14 (A := v279.toInt) (B := 1) rfl rfl (by omega) (fun v281 e282 => ?_)
            refine to_r0 (pc := 15) rw_47_15 ?_
            refine to_c (pc := 45) rw_42_45 (x := (1 : Int32)) rfl rfl ?_
            refine s_sub (pc := 46) rw_42_46 (A := v281.toInt) (B := 1) rfl rfl (by omega) (fun v283 e284 => ?_)
            refine to_go (pc := 47) rw_42_47 ?_
            refine to_is (pc := 51) rw_42_51 (ls2 := [.ref p, .ref 1, .int f, .long y3, .null, .int x5, .int v283, u7, u8]) rfl rfl ?_
            refine to_an (pc := 53) rw_42_53 rfl ?_
            refine to_c (pc := 54) rw_42_54 (x := (0 : Int32)) rfl rfl ?_
            refine to_i (pc := 55) rw_42_55 rfl ?_
            refine s_v (pc := 57) rw_42_57 (by omega) (ls0 := [.ref 1, .int (0 : Int32), .int v283]) rfl (Nat.le_of_ble_eq_true rfl) (Nat.le_of_ble_eq_true rfl) rfl (to_rc rfl rfl rfl (g_o hG rfl)) rfl ?_
            have k_285 : (0 : Int32).toInt = 0 := rfl
            refine E_88 hX (by omega) hG g5 (by omega) (l := (0 : Int32)) (m := v283) (t := t) (nn := nn) (a := (N.2.1 1 9).toInt) (fun r286 M293 hG288 F287 p_289 p_290 p_291 p_292 => ?_)
            have F294 := FR.c F0 F287 (fun a i z => show a = 1 ∧ 6 ≤ i ∧ i ≤ 11 ∨ a = p + 8 by have z : a = 1 ∧ (i = 10 ∨ i = 11) := z; omega)
            rcases (show r286.toInt = 0 ∨ r286.toInt = 1 by omega) with h295 | h295
            · skip
              have p_296 := p_292 (by omega)
              clear p_291 p_292
              have z_297 := x_val_b (t := t) (nn := nn) (a := (N.2.1 1 9).toInt)
              refine b_ine_f (pc := 60) rw_42_60 (A := r286.toInt) rfl (by omega) ?_
              refine to_c (pc := 63) rw_42_63 (x := (0 : Int32)) rfl rfl ?_
              refine s_r1 (pc := 64) rw_42_64 (A := 0) rfl (by omega) ?_
              have j_298 := (CS_f (fun a i z => F_n F287 (show ¬ (a = 1 ∧ (i = 10 ∨ i = 11)) by omega) rfl) g5)
              have j_299 := (PLc_f (fun a i z => F_n F287 (show ¬ (a = 1 ∧ (i = 10 ∨ i = 11)) by omega) rfl) (F_nl F287 (show ¬ (p = 1 ∧ (4 = 10 ∨ 4 = 11)) by omega) rfl) g6)
              exact h (0 : Int32) M293 hG288 F294 (by omega) (by omega) j_298 j_299 (fun _ => g7.symm.trans (by first | exact x_rc_n1 (by omega) (by omega) | exact x_rc_n2 (by omega) (by omega) | exact (if g9 : x_kind t nn (N.2.1 1 9).toInt = 3 then x_rc_n1 g9 (by omega) else x_rc_n2 g9 (by omega)))) (fun z => absurd z (by decide))
            · skip
              have p_300 := p_291 (by omega)
              clear p_291 p_292
              have c_301 : M293.2.1 1 8 = (N.2.1 1 8) := (F_n F287 (show ¬ (1 = 1 ∧ (8 = 10 ∨ 8 = 11)) by omega) rfl)
              have z_302 := x_val_b (t := t) (nn := nn) (a := (N.2.1 1 9).toInt) (by omega)
              refine b_ine_t (pc := 60) rw_42_60 (A := r286.toInt) rfl (by omega) ?_
              refine to_cl (pc := 65) rw_42_65 rfl (x := (1 : Int64)) rfl ?_
              refine to_an (pc := 66) rw_42_66 rfl ?_
              refine s_gR (pc := 67) rw_42_67 hG288 (by rcases hp with rfl | rfl <;> rfl) (v := (p + 3)) (by rcases hp with rfl | rfl <;> rfl) ?_
              refine to_in (pc := 70) rw_42_70 rfl ?_
              refine s_ialk (pc := 71) rw_42_71 hG288 (by rcases hp with rfl | rfl <;> rfl) (n := 8) (by rcases hp with rfl | rfl <;> rfl) (by rcases hp with rfl | rfl <;> rfl) (A := f.toInt) rfl (by omega) (by omega) (v := v276) (F_n F287 (show ¬ ((p + 3) = 1 ∧ ((f.toInt).toNat = 10 ∨ (f.toInt).toNat = 11)) by omega) w_277) ?_
              refine to_an (pc := 72) rw_42_72 rfl ?_
              refine tt_gI (pc := 73) rw_42_73 (g_o hG288 rfl) (v := (N.2.1 1 8)) c_301 ?_
              refine s_add (pc := 76) rw_42_76 (A := v276.toInt) (B := (N.2.1 1 8).toInt) rfl rfl (by omega) (fun v305 e306 => ?_)
              refine to_2s (pc := 77) rw_42_77 (v := ((1 : Int64) <<< (v305.toInt64 &&& 63))) rfl ?_
              refine to_ls (pc := 78) rw_42_78 (ls2 := [.ref p, .ref 1, .int f, .long y3, .null, .int x5, .int v283, .long ((1 : Int64) <<< (v305.toInt64 &&& 63)), .null]) rfl rfl ?_
              refine to_ln (pc := 80) rw_42_80 rfl rfl rfl ?_
              refine to_l (pc := 81) rw_42_81 rfl rfl rfl ?_
              refine to_2l (pc := 83) rw_42_83 (v := (y3 &&& ((1 : Int64) <<< (v305.toInt64 &&& 63)))) rfl ?_
              refine to_cl (pc := 84) rw_42_84 rfl (x := (0 : Int64)) rfl ?_
              refine s_lcmpE (pc := 85) rw_42_85 (fun v307 e308 => ?_)
              have b_309 := x_eq_b (x := (y3 &&& ((1 : Int64) <<< (v305.toInt64 &&& 63)))) (y := (0 : Int64))
              have z_310 := x_hit_e (v := v305) (bits := y3) (h := (x_row sg 3 f.toInt + x_val t nn (N.2.1 1 9).toInt))
              refine b_ieq (pc := 86) rw_42_86 (A := v307.toInt) rfl (fun h311 => ?_) (fun h311 => ?_)
              · refine to_ln (pc := 95) rw_42_95 rfl rfl rfl ?_
                refine to_l (pc := 96) rw_42_96 rfl rfl rfl ?_
                refine to_2l (pc := 98) rw_42_98 (v := (y3 ||| ((1 : Int64) <<< (v305.toInt64 &&& 63)))) rfl ?_
                refine to_lsn (pc := 99) rw_42_99 (ls2 := [.ref p, .ref 1, .int f, .long (y3 ||| ((1 : Int64) <<< (v305.toInt64 &&& 63))), .null, .int x5, .int v283, .long ((1 : Int64) <<< (v305.toInt64 &&& 63)), .null]) rfl rfl ?_
                refine s_inc (pc := 100) rw_42_100 (ls2 := fun v => [.ref p, .ref 1, .int f, .long (y3 ||| ((1 : Int64) <<< (v305.toInt64 &&& 63))), .null, .int v, .int v283, .long ((1 : Int64) <<< (v305.toInt64 &&& 63)), .null]) rfl rfl (fun _ => rfl) (A := x5.toInt) (B := 1) rfl rfl (by omega) (fun v312 e313 => ?_)
                refine to_an (pc := 103) rw_42_103 rfl ?_
                refine s_v (pc := 104) rw_42_104 (by omega) (ls0 := [.ref 1]) rfl (Nat.le_of_ble_eq_true rfl) (Nat.le_of_ble_eq_true rfl) rfl (to_rc rfl rfl rfl (g_o hG288 rfl)) rfl ?_
                have j_314 := (CS_f (fun a i z => F_n F287 (show ¬ (a = 1 ∧ (i = 10 ∨ i = 11)) by omega) rfl) g5)
                have c_315 : M293.2.1 1 9 = (N.2.1 1 9) := (F_n F287 (show ¬ (1 = 1 ∧ (9 = 10 ∨ 9 = 11)) by omega) rfl)
                have t_316 : (M293.2.1 1 9).toInt = (N.2.1 1 9).toInt := congrArg Int32.toInt c_315
                refine E_83 hX (by omega) hG288 j_314 (by omega) (t := t) (nn := nn) (a := (N.2.1 1 9).toInt) (fun M321 hG318 F317 p_319 p_320 => ?_)
                have F322 := FR.c F294 F317 (fun a i z => show a = 1 ∧ 6 ≤ i ∧ i ≤ 11 ∨ a = p + 8 by have z : a = 1 ∧ 6 ≤ i ∧ i ≤ 9 := z; omega)
                refine to_go (pc := 107) rw_42_107 ?_
                have c_323 : M321.2.1 p 3 = (N.2.1 p 3) := (F_n F317 (show ¬ (p = 1 ∧ 6 ≤ 3 ∧ 3 ≤ 9) by omega) (F_n F287 (show ¬ (p = 1 ∧ (3 = 10 ∨ 3 = 11)) by omega) rfl))
                have t_324 : (M321.2.1 p 3).toInt = (N.2.1 p 3).toInt := congrArg Int32.toInt c_323
                have j_325 := (PLc_f (fun a i z => F_n F317 (show ¬ (a = 1 ∧ 6 ≤ i ∧ i ≤ 9) by omega) rfl) (F_nl F317 (show ¬ (p = 1 ∧ 6 ≤ 4 ∧ 4 ≤ 9) by omega) rfl) (PLc_f (fun a i z => F_n F287 (show ¬ (a = 1 ∧ (i = 10 ∨ i = 11)) by omega) rfl) (F_nl F287 (show ¬ (p = 1 ∧ (4 = 10 ∨ 4 = 11)) by omega) rfl) g6))
                exact ih M321 (y3 ||| ((1 : Int64) <<< (v305.toInt64 &&& 63))) v312 (.int v283) (.long ((1 : Int64) <<< (v305.toInt64 &&& 63))) (.null) hG318 F322 (by omega) (by omega) (by omega) (by omega) p_319 j_325 (x_rc_s (fu := (6 - x5.toInt).toNat) (told := x5.toInt) (bits := y3) (b := (N.2.1 1 9).toInt) (by omega) (by omega) (by omega) (by omega) (by omega) (congrArg (fun z => y3 ||| z) (x_bit_e (v := v305) (by omega))) g7) (by omega)
              · refine to_an (pc := 89) rw_42_89 rfl ?_
                refine to_c (pc := 90) rw_42_90 (x := (3 : Int32)) rfl rfl ?_
                refine s_v (pc := 91) rw_42_91 (by omega) (ls0 := [.ref 1, .int (3 : Int32)]) rfl (Nat.le_of_ble_eq_true rfl) (Nat.le_of_ble_eq_true rfl) rfl (to_rc rfl rfl rfl (g_o hG288 rfl)) rfl ?_
                refine to_an (pc := 0) rw_84_0 rfl ?_
                refine to_in (pc := 1) rw_84_1 rfl ?_
                refine s_pI (pc := 2) rw_84_2 hG288 rfl (fun M327 W326 => ?_)
                have hG328 := g_wf hG288 W326 rfl rfl (by decide)
                have F329 := FR.w F294 W326 (show 1 = 1 ∧ 6 ≤ 10 ∧ 10 ≤ 11 ∨ 1 = p + 8 by omega)
                refine to_an (pc := 5) rw_84_5 rfl ?_
                refine to_an (pc := 6) rw_84_6 rfl ?_
                have c_330 : M327.2.1 1 9 = (N.2.1 1 9) := (W_n W326 (by decide) (F_n F287 (show ¬ (1 = 1 ∧ (9 = 10 ∨ 9 = 11)) by omega) rfl))
                refine tt_gI (pc := 7) rw_84_7 (g_o hG328 rfl) (v := (N.2.1 1 9)) c_330 ?_
                refine s_pI (pc := 10) rw_84_10 hG328 rfl (fun M332 W331 => ?_)
                have hG333 := g_wf hG328 W331 rfl rfl (by decide)
                have F334 := FR.w F329 W331 (show 1 = 1 ∧ 6 ≤ 11 ∧ 11 ≤ 11 ∨ 1 = p + 8 by omega)
                refine to_c (pc := 13) rw_84_13 (x := (0 : Int32)) rfl rfl ?_
                refine s_r1 (pc := 14) rw_84_14 (A := 0) rfl (by omega) ?_
                refine s_r1 (pc := 94) rw_42_94 (A := 0) rfl (by omega) ?_
                have j_335 := (CS_f (fun a i z => W_n W331 (by omega) rfl) (CS_f (fun a i z => W_n W326 (by omega) rfl) (CS_f (fun a i z => F_n F287 (show ¬ (a = 1 ∧ (i = 10 ∨ i = 11)) by omega) rfl) g5)))
                have j_336 := (PLc_f (fun a i z => W_n W331 (by omega) rfl) (W_j W331 rfl) (PLc_f (fun a i z => W_n W326 (by omega) rfl) (W_j W326 rfl) (PLc_f (fun a i z => F_n F287 (show ¬ (a = 1 ∧ (i = 10 ∨ i = 11)) by omega) rfl) (F_nl F287 (show ¬ (p = 1 ∧ (4 = 10 ∨ 4 = 11)) by omega) rfl) g6)))
                exact h (0 : Int32) M332 hG333 F334 (by omega) (by omega) j_335 j_336 (fun _ => g7.symm.trans (by first | exact x_rc_n1 (by omega) (by omega) | exact x_rc_n2 (by omega) (by omega) | exact (if g9 : x_kind t nn (N.2.1 1 9).toInt = 3 then x_rc_n1 g9 (by omega) else x_rc_n2 g9 (by omega)))) (fun z => absurd z (by decide))
set_option maxRecDepth 4000 in
set_option maxHeartbeats 0 in
theorem E_42 {X : mm_X} {d : Nat} {M : mm_M} {Q : Option Value → mm_M → Prop} {p : Nat} {f : Int32} {t : Nat → Int} {nn : Int} {a : Int} {sg : x_S} {k : x_K} {nm : Int} (hX : g_X X) (hd : 2 ≤ d) (hG : g_G M) (hp : p = 49 ∨ p = 58) (q1 : CS M t nn) (q2 : (M.2.1 1 9).toInt = a) (q3 : PLc M p sg) (q4 : 0 ≤ f.toInt) (q5 : f.toInt ≤ 7) (q6 : f.toInt < sg.2.1) (q7 : x_row sg 2 f.toInt = 3) (q8 : (M.2.1 p 3).toInt ≤ 11) (h : ∀ (r : Int32) (M1 : mm_M), g_G M1 → FR (md_c42e p) M M1 → (0 ≤ r.toInt) → (r.toInt ≤ 1) → CS M1 t nn → PLc M1 p sg → ((r.toInt = 0 → x_rc t nn sg f.toInt nm k 6 0 0 a = none)) → ((r.toInt = 1 → x_rc t nn sg f.toInt nm k 6 0 0 a = k (M1.2.1 1 9).toInt (x_pushw sg nm f.toInt) ∨ x_rc t nn sg f.toInt nm k 6 0 0 a = none ∧ ¬ (x_kind t nn (M1.2.1 1 9).toInt = 4 ∧ x_val t nn (M1.2.1 1 9).toInt = 59))) → Q (some (.int r)) M1) : mm_T X d 42 0 [.ref p, .ref 1, .int f, .null, .null, .null, .null, .null, .null] [] M Q := by
  have F0 : FR (md_c42e p) M M := FR.rf
  have b_337 := g_b hG (a := p) (i := 3) (lo := 0) (hi := 12) (by rcases hp with rfl | rfl <;> rfl) (by rcases hp with rfl | rfl <;> rfl)
  have z_338 := q3.2.1
  have z_339 := q3.2.2.1
  have z_340 := q3.2.2.2.1
  have z_341 := q3.1
  have z_342 := z_341.1
  have z_343 := z_341.2.1
  have z_344 := z_341.2.2.1
  have z_345 := z_341.2.2.2.1
  have z_346 := z_341.2.2.2.2.1
  have z_347 := z_341.2.2.2.2.2.1
  have b_348 := g_b hG (a := p) (i := 2) (lo := 0) (hi := 8) (by rcases hp with rfl | rfl <;> rfl) (by rcases hp with rfl | rfl <;> rfl)
  have z_349 := q3.1.2.2.2.2.2.2.2 f.toInt (by omega) (by omega)
  refine to_cl (pc := 0) rw_42_0 rfl (x := (0 : Int64)) rfl ?_
  refine to_lsn (pc := 1) rw_42_1 (ls2 := [.ref p, .ref 1, .int f, .long (0 : Int64), .null, .null, .null, .null, .null]) rfl rfl ?_
  refine to_c (pc := 2) rw_42_2 (x := (0 : Int32)) rfl rfl ?_
  refine to_is (pc := 3) rw_42_3 (ls2 := [.ref p, .ref 1, .int f, .long (0 : Int64), .null, .int (0 : Int32), .null, .null, .null]) rfl rfl ?_
  have k_350 : (0 : Int32).toInt = 0 := rfl
  exact (U_42_0 (p := p) (f := f) (t := t) (nn := nn) (a := a) (sg := sg) (k := k) (nm := nm) hX hd hp q1 q2 q3 q4 q5 q6 q7 q8 h ((10 - (0 : Int32).toInt).toNat + 1)) M (0 : Int64) (0 : Int32) (.null) (.null) (.null) hG F0 (by omega) (by omega) (by omega) (by omega) q1 q3 (by rw [show (M.2.1 1 9).toInt = a by omega]; rfl) (by omega)
set_option maxRecDepth 4000 in
set_option maxHeartbeats 0 in
theorem E_41 {X : mm_X} {d : Nat} {M : mm_M} {Q : Option Value → mm_M → Prop} {p : Nat} {t : Nat → Int} {nn : Int} {a : Int} {sg : x_S} {k : x_K} (hX : g_X X) (hd : 3 ≤ d) (hG : g_G M) (hp : p = 49 ∨ p = 58) (q1 : CS M t nn) (q2 : (M.2.1 1 9).toInt = a) (q3 : PLc M p sg) (h : ∀ (r : Int32) (M1 : mm_M), g_G M1 → FR (md_w41 p) M M1 → (0 ≤ r.toInt) → (r.toInt ≤ 1) → CS M1 t nn → ((r.toInt = 0 → x_word t nn sg (x_ns t nn a) k = none)) → ((r.toInt = 1 → (∃ s2 : x_S, x_word t nn sg (x_ns t nn a) k = k (M1.2.1 1 9).toInt s2 ∧ PLc M1 p s2 ∧ s2.2.1 + s2.2.2.1 = sg.2.1 + sg.2.2.1 + 1) ∨ x_word t nn sg (x_ns t nn a) k = none ∧ ¬ (x_kind t nn (M1.2.1 1 9).toInt = 4 ∧ x_val t nn (M1.2.1 1 9).toInt = 59))) → Q (some (.int r)) M1) : mm_T X d 41 0 [.ref p, .ref 1, .null] [] M Q := by
  have F0 : FR (md_w41 p) M M := FR.rf
  have z_1 := q3.2.1
  have z_2 := q3.2.2.1
  have z_3 := q3.2.2.2.1
  have z_4 := q3.1
  have z_5 := z_4.1
  have z_6 := z_4.2.1
  have z_7 := z_4.2.2.1
  have z_8 := z_4.2.2.2.1
  have z_9 := z_4.2.2.2.2.1
  have z_10 := z_4.2.2.2.2.2.1
  have b_11 := g_b hG (a := p) (i := 0) (lo := 10) (hi := 60) (by rcases hp with rfl | rfl <;> rfl) (by rcases hp with rfl | rfl <;> rfl)
  have b_12 := g_b hG (a := p) (i := 2) (lo := 0) (hi := 8) (by rcases hp with rfl | rfl <;> rfl) (by rcases hp with rfl | rfl <;> rfl)
  have b_13 := g_b hG (a := p) (i := 3) (lo := 0) (hi := 12) (by rcases hp with rfl | rfl <;> rfl) (by rcases hp with rfl | rfl <;> rfl)
  have z_14 := x_fn_b (s := sg) (v := x_val t nn (x_ns t nn a)) q3.1
  refine to_an (pc := 0) rw_41_0 rfl ?_
  refine tt_gI (pc := 1) rw_41_1 (g_o hG (by rcases hp with rfl | rfl <;> rfl)) (v := (M.2.1 p 3)) rfl ?_
  refine to_c (pc := 4) rw_41_4 (x := (12 : Int32)) rfl rfl ?_
  refine b_clt (pc := 6) rw_41_6 (A := (M.2.1 p 3).toInt) (B := 12) rfl rfl (fun h15 => ?_) (fun h15 => ?_)
  · refine to_an (pc := 15) rw_41_15 rfl ?_
    refine s_v (pc := 16) rw_41_16 (by omega) (ls0 := [.ref 1]) rfl (Nat.le_of_ble_eq_true rfl) (Nat.le_of_ble_eq_true rfl) rfl (to_rc rfl rfl rfl (g_o hG rfl)) rfl ?_
    refine E_83 hX (by omega) hG q1 (by omega) (t := t) (nn := nn) (a := a) (fun M20 hG17 F16 p_18 p_19 => ?_)
    have F21 := FR.c F0 F16 (fun a i z => show a = 1 ∧ 6 ≤ i ∧ i ≤ 11 ∨ a = p ∧ i = 3 ∨ p + 6 ≤ a ∧ a ≤ p + 8 by have z : a = 1 ∧ 6 ≤ i ∧ i ≤ 9 := z; omega)
    refine to_an (pc := 19) rw_41_19 rfl ?_
    have c_22 := CS_u p_18 (a := (x_ns t nn a)) (by omega)
    unfold x_C at c_22
    refine tt_gI (pc := 20) rw_41_20 (g_o hG17 rfl) (v := (M20.2.1 1 7)) rfl ?_
    refine to_c (pc := 23) rw_41_23 (x := (3 : Int32)) rfl rfl ?_
    refine b_ceq (pc := 24) rw_41_24 (A := (M20.2.1 1 7).toInt) (B := 3) rfl rfl (fun h23 => ?_) (fun h23 => ?_)
    · refine to_an (pc := 33) rw_41_33 rfl ?_
      refine to_an (pc := 34) rw_41_34 rfl ?_
      refine tt_gI (pc := 35) rw_41_35 (g_o hG17 rfl) (v := (M20.2.1 1 8)) rfl ?_
      refine s_v (pc := 38) rw_41_38 (by omega) (ls0 := [.ref p, .int (M20.2.1 1 8)]) rfl (Nat.le_of_ble_eq_true rfl) (Nat.le_of_ble_eq_true rfl) rfl (to_rc rfl rfl rfl (g_o hG17 (by rcases hp with rfl | rfl <;> rfl))) rfl ?_
      refine to_an (pc := 0) rw_52_0 rfl ?_
      refine s_gR (pc := 1) rw_52_1 hG17 (by rcases hp with rfl | rfl <;> rfl) (v := (p + 1)) (by rcases hp with rfl | rfl <;> rfl) ?_
      refine to_an (pc := 4) rw_52_4 rfl ?_
      have c_24 : M20.2.1 p 2 = (M.2.1 p 2) := (F_n F16 (show ¬ (p = 1 ∧ 6 ≤ 2 ∧ 2 ≤ 9) by omega) rfl)
      refine tt_gI (pc := 5) rw_52_5 (g_o hG17 (by rcases hp with rfl | rfl <;> rfl)) (v := (M.2.1 p 2)) c_24 ?_
      refine to_in (pc := 8) rw_52_8 rfl ?_
      refine s_s (pc := 9) rw_52_9 (by omega) (ls0 := [.ref (p + 1), .int (M.2.1 p 2), .int (M20.2.1 1 8), .null]) rfl (Nat.le_of_ble_eq_true rfl) (Nat.le_of_ble_eq_true rfl) rfl (to_rcs rfl rfl) rfl ?_
      have j_25 := (PLc_f (fun a i z => F_n F16 (show ¬ (a = 1 ∧ 6 ≤ i ∧ i ≤ 9) by omega) rfl) (F_nl F16 (show ¬ (p = 1 ∧ 6 ≤ 4 ∧ 4 ≤ 9) by omega) rfl) q3)
      refine E_54f hX (by omega) hG17 (by omega) (by omega) (by omega) (f := (p + 1)) (s := (M.2.1 p 2)) (x := (M20.2.1 1 8)) (fun r26 M32 hG28 F27 p_29 p_30 p_31 => ?_)
      have F33 := FR.c F21 F27 (fun a i z => show a = 1 ∧ 6 ≤ i ∧ i ≤ 11 ∨ a = p ∧ i = 3 ∨ p + 6 ≤ a ∧ a ≤ p + 8 by have z : a < 0 := z; omega)
      have z_34 := PLc_n (v := (M20.2.1 1 8).toInt) j_25 (n := (M.2.1 p 2).toInt) (by omega)
      have z_35 := x_fn_v (s := sg) (r := 1) (v := (M20.2.1 1 8).toInt) (w := x_val t nn (x_ns t nn a))
      refine to_r0 (pc := 12) rw_52_12 ?_
      refine to_isn (pc := 41) rw_41_41 (ls2 := [.ref p, .ref 1, .int r26]) rfl rfl ?_
      refine to_an (pc := 42) rw_41_42 rfl ?_
      refine to_in (pc := 43) rw_41_43 rfl ?_
      refine s_v (pc := 44) rw_41_44 (by omega) (ls0 := [.ref p, .int r26]) rfl (Nat.le_of_ble_eq_true rfl) (Nat.le_of_ble_eq_true rfl) rfl (to_rc rfl rfl rfl (g_o hG28 (by rcases hp with rfl | rfl <;> rfl))) rfl ?_
      refine to_in (pc := 0) rw_43_0 rfl ?_
      refine b_ilt (pc := 1) rw_43_1 (A := r26.toInt) rfl (fun h36 => ?_) (fun h36 => ?_)
      · refine to_c (pc := 16) rw_43_16 (x := (0 : Int32)) rfl rfl ?_
        refine s_r1 (pc := 17) rw_43_17 (A := 0) rfl (by omega) ?_
        refine b_ieq_t (pc := 47) rw_41_47 (A := 0) rfl (by omega) ?_
        refine to_an (pc := 58) rw_41_58 rfl ?_
        refine to_c (pc := 59) rw_41_59 (x := (4 : Int32)) rfl rfl ?_
        refine s_v (pc := 60) rw_41_60 (by omega) (ls0 := [.ref 1, .int (4 : Int32)]) rfl (Nat.le_of_ble_eq_true rfl) (Nat.le_of_ble_eq_true rfl) rfl (to_rc rfl rfl rfl (g_o hG28 rfl)) rfl ?_
        refine to_an (pc := 0) rw_84_0 rfl ?_
        refine to_in (pc := 1) rw_84_1 rfl ?_
        refine s_pI (pc := 2) rw_84_2 hG28 rfl (fun M38 W37 => ?_)
        have hG39 := g_wf hG28 W37 rfl rfl (by decide)
        have F40 := FR.w F33 W37 (show 1 = 1 ∧ 6 ≤ 10 ∧ 10 ≤ 11 ∨ 1 = p ∧ 10 = 3 ∨ p + 6 ≤ 1 ∧ 1 ≤ p + 8 by omega)
        refine to_an (pc := 5) rw_84_5 rfl ?_
        refine to_an (pc := 6) rw_84_6 rfl ?_
        have c_41 : M38.2.1 1 9 = (M20.2.1 1 9) := (W_n W37 (by decide) (F_n F27 (show ¬ (1 < 0) by omega) rfl))
        refine tt_gI (pc := 7) rw_84_7 (g_o hG39 rfl) (v := (M20.2.1 1 9)) c_41 ?_
        refine s_pI (pc := 10) rw_84_10 hG39 rfl (fun M43 W42 => ?_)
        have hG44 := g_wf hG39 W42 rfl rfl (by decide)
        have F45 := FR.w F40 W42 (show 1 = 1 ∧ 6 ≤ 11 ∧ 11 ≤ 11 ∨ 1 = p ∧ 11 = 3 ∨ p + 6 ≤ 1 ∧ 1 ≤ p + 8 by omega)
        refine to_c (pc := 13) rw_84_13 (x := (0 : Int32)) rfl rfl ?_
        refine s_r1 (pc := 14) rw_84_14 (A := 0) rfl (by omega) ?_
        refine s_r1 (pc := 63) rw_41_63 (A := 0) rfl (by omega) ?_
        have k_46 : (0 : Int32).toInt = 0 := rfl
        have j_47 := (CS_f (fun a i z => W_n W42 (by omega) rfl) (CS_f (fun a i z => W_n W37 (by omega) rfl) (CS_f (fun a i z => F_n F27 (show ¬ (a < 0) by omega) rfl) p_18)))
        exact h (0 : Int32) M43 hG44 F45 (by omega) (by omega) j_47 (fun _ => x_word_n (by omega)) (fun z => absurd z (by decide))
      · refine to_in (pc := 4) rw_43_4 rfl ?_
        refine to_an (pc := 5) rw_43_5 rfl ?_
        have c_48 : M32.2.1 p 2 = (M.2.1 p 2) := (F_n F27 (show ¬ (p < 0) by omega) c_24)
        refine tt_gI (pc := 6) rw_43_6 (g_o hG28 (by rcases hp with rfl | rfl <;> rfl)) (v := (M.2.1 p 2)) c_48 ?_
        refine b_cge (pc := 9) rw_43_9 (A := r26.toInt) (B := (M.2.1 p 2).toInt) rfl rfl (fun h49 => ?_) (fun h49 => ?_)
        · refine to_c (pc := 16) rw_43_16 (x := (0 : Int32)) rfl rfl ?_
          refine s_r1 (pc := 17) rw_43_17 (A := 0) rfl (by omega) ?_
          refine b_ieq_t (pc := 47) rw_41_47 (A := 0) rfl (by omega) ?_
          refine to_an (pc := 58) rw_41_58 rfl ?_
          refine to_c (pc := 59) rw_41_59 (x := (4 : Int32)) rfl rfl ?_
          refine s_v (pc := 60) rw_41_60 (by omega) (ls0 := [.ref 1, .int (4 : Int32)]) rfl (Nat.le_of_ble_eq_true rfl) (Nat.le_of_ble_eq_true rfl) rfl (to_rc rfl rfl rfl (g_o hG28 rfl)) rfl ?_
          refine to_an (pc := 0) rw_84_0 rfl ?_
          refine to_in (pc := 1) rw_84_1 rfl ?_
          refine s_pI (pc := 2) rw_84_2 hG28 rfl (fun M51 W50 => ?_)
          have hG52 := g_wf hG28 W50 rfl rfl (by decide)
          have F53 := FR.w F33 W50 (show 1 = 1 ∧ 6 ≤ 10 ∧ 10 ≤ 11 ∨ 1 = p ∧ 10 = 3 ∨ p + 6 ≤ 1 ∧ 1 ≤ p + 8 by omega)
          refine to_an (pc := 5) rw_84_5 rfl ?_
          refine to_an (pc := 6) rw_84_6 rfl ?_
          have c_54 : M51.2.1 1 9 = (M20.2.1 1 9) := (W_n W50 (by decide) (F_n F27 (show ¬ (1 < 0) by omega) rfl))
          refine tt_gI (pc := 7) rw_84_7 (g_o hG52 rfl) (v := (M20.2.1 1 9)) c_54 ?_
          refine s_pI (pc := 10) rw_84_10 hG52 rfl (fun M56 W55 => ?_)
          have hG57 := g_wf hG52 W55 rfl rfl (by decide)
          have F58 := FR.w F53 W55 (show 1 = 1 ∧ 6 ≤ 11 ∧ 11 ≤ 11 ∨ 1 = p ∧ 11 = 3 ∨ p + 6 ≤ 1 ∧ 1 ≤ p + 8 by omega)
          refine to_c (pc := 13) rw_84_13 (x := (0 : Int32)) rfl rfl ?_
          refine s_r1 (pc := 14) rw_84_14 (A := 0) rfl (by omega) ?_
          refine s_r1 (pc := 63) rw_41_63 (A := 0) rfl (by omega) ?_
          have k_59 : (0 : Int32).toInt = 0 := rfl
          have j_60 := (CS_f (fun a i z => W_n W55 (by omega) rfl) (CS_f (fun a i z => W_n W50 (by omega) rfl) (CS_f (fun a i z => F_n F27 (show ¬ (a < 0) by omega) rfl) p_18)))
          exact h (0 : Int32) M56 hG57 F58 (by omega) (by omega) j_60 (fun _ => x_word_n (by omega)) (fun z => absurd z (by decide))
        · refine to_c (pc := 12) rw_43_12 (x := (1 : Int32)) rfl rfl ?_
          refine to_go (pc := 13) rw_43_13 ?_
          refine s_r1 (pc := 17) rw_43_17 (A := 1) rfl (by omega) ?_
          refine b_ieq_f (pc := 47) rw_41_47 (A := 1) rfl (by omega) ?_
          refine to_an (pc := 50) rw_41_50 rfl ?_
          refine to_in (pc := 51) rw_41_51 rfl ?_
          refine s_v (pc := 52) rw_41_52 (by omega) (ls0 := [.ref p, .int r26]) rfl (Nat.le_of_ble_eq_true rfl) (Nat.le_of_ble_eq_true rfl) rfl (to_rc rfl rfl rfl (g_o hG28 (by rcases hp with rfl | rfl <;> rfl))) rfl ?_
          refine to_an (pc := 0) rw_45_0 rfl ?_
          refine s_gR (pc := 1) rw_45_1 hG28 (by rcases hp with rfl | rfl <;> rfl) (v := (p + 2)) (by rcases hp with rfl | rfl <;> rfl) ?_
          refine to_in (pc := 4) rw_45_4 rfl ?_
          refine s_ial (pc := 5) rw_45_5 hG28 (by rcases hp with rfl | rfl <;> rfl) (n := 8) (by rcases hp with rfl | rfl <;> rfl) (by rcases hp with rfl | rfl <;> rfl) (A := r26.toInt) rfl (by omega) (by omega) (lo := 0) (hi := 3) (by rcases hp with rfl | rfl <;> rfl) (by rcases hp with rfl | rfl <;> rfl) (fun v61 w_62 _ _ => ?_)
          have j_63 := (PLc_f (fun a i z => F_n F27 (show ¬ (a < 0) by omega) rfl) (F_nl F27 (show ¬ (p < 0) by omega) rfl) j_25)
          have z_64 := PLc_r j_63 2 (by decide) (by decide) (k := r26.toInt) (by omega) (by omega) w_62
          have z_65 := x_row_v (s := sg) (r := 2) (x := r26.toInt) (y := x_fn sg 1 (x_val t nn (x_ns t nn a)))
          refine to_c (pc := 6) rw_45_6 (x := (3 : Int32)) rfl rfl ?_
          refine b_cne (pc := 7) rw_45_7 (A := v61.toInt) (B := 3) rfl rfl (fun h66 => ?_) (fun h66 => ?_)
          · refine to_c (pc := 14) rw_45_14 (x := (0 : Int32)) rfl rfl ?_
            refine s_r1 (pc := 15) rw_45_15 (A := 0) rfl (by omega) ?_
            refine b_ine_f (pc := 55) rw_41_55 (A := 0) rfl (by omega) ?_
            refine to_an (pc := 58) rw_41_58 rfl ?_
            refine to_c (pc := 59) rw_41_59 (x := (4 : Int32)) rfl rfl ?_
            refine s_v (pc := 60) rw_41_60 (by omega) (ls0 := [.ref 1, .int (4 : Int32)]) rfl (Nat.le_of_ble_eq_true rfl) (Nat.le_of_ble_eq_true rfl) rfl (to_rc rfl rfl rfl (g_o hG28 rfl)) rfl ?_
            refine to_an (pc := 0) rw_84_0 rfl ?_
            refine to_in (pc := 1) rw_84_1 rfl ?_
            refine s_pI (pc := 2) rw_84_2 hG28 rfl (fun M68 W67 => ?_)
            have hG69 := g_wf hG28 W67 rfl rfl (by decide)
            have F70 := FR.w F33 W67 (show 1 = 1 ∧ 6 ≤ 10 ∧ 10 ≤ 11 ∨ 1 = p ∧ 10 = 3 ∨ p + 6 ≤ 1 ∧ 1 ≤ p + 8 by omega)
            refine to_an (pc := 5) rw_84_5 rfl ?_
            refine to_an (pc := 6) rw_84_6 rfl ?_
            have c_71 : M68.2.1 1 9 = (M20.2.1 1 9) := (W_n W67 (by decide) (F_n F27 (show ¬ (1 < 0) by omega) rfl))
            refine tt_gI (pc := 7) rw_84_7 (g_o hG69 rfl) (v := (M20.2.1 1 9)) c_71 ?_
            refine s_pI (pc := 10) rw_84_10 hG69 rfl (fun M73 W72 => ?_)
            have hG74 := g_wf hG69 W72 rfl rfl (by decide)
            have F75 := FR.w F70 W72 (show 1 = 1 ∧ 6 ≤ 11 ∧ 11 ≤ 11 ∨ 1 = p ∧ 11 = 3 ∨ p + 6 ≤ 1 ∧ 1 ≤ p + 8 by omega)
            refine to_c (pc := 13) rw_84_13 (x := (0 : Int32)) rfl rfl ?_
            refine s_r1 (pc := 14) rw_84_14 (A := 0) rfl (by omega) ?_
            refine s_r1 (pc := 63) rw_41_63 (A := 0) rfl (by omega) ?_
            have k_76 : (0 : Int32).toInt = 0 := rfl
            have j_77 := (CS_f (fun a i z => W_n W72 (by omega) rfl) (CS_f (fun a i z => W_n W67 (by omega) rfl) (CS_f (fun a i z => F_n F27 (show ¬ (a < 0) by omega) rfl) p_18)))
            exact h (0 : Int32) M73 hG74 F75 (by omega) (by omega) j_77 (fun _ => x_word_n (by omega)) (fun z => absurd z (by decide))
          · refine to_c (pc := 10) rw_45_10 (x := (1 : Int32)) rfl rfl ?_
            refine to_go (pc := 11) rw_45_11 ?_
            refine s_r1 (pc := 15) rw_45_15 (A := 1) rfl (by omega) ?_
            refine b_ine_t (pc := 55) rw_41_55 (A := 1) rfl (by omega) ?_
            refine to_an (pc := 64) rw_41_64 rfl ?_
            refine s_v (pc := 65) rw_41_65 (by omega) (ls0 := [.ref 1]) rfl (Nat.le_of_ble_eq_true rfl) (Nat.le_of_ble_eq_true rfl) rfl (to_rc rfl rfl rfl (g_o hG28 rfl)) rfl ?_
            have j_78 := (CS_f (fun a i z => F_n F27 (show ¬ (a < 0) by omega) rfl) p_18)
            have c_79 : M32.2.1 1 9 = (M20.2.1 1 9) := (F_n F27 (show ¬ (1 < 0) by omega) rfl)
            have t_80 : (M32.2.1 1 9).toInt = (M20.2.1 1 9).toInt := congrArg Int32.toInt c_79
            refine E_83 hX (by omega) hG28 j_78 (by omega) (t := t) (nn := nn) (a := (x_ns t nn a)) (fun M85 hG82 F81 p_83 p_84 => ?_)
            have F86 := FR.c F33 F81 (fun a i z => show a = 1 ∧ 6 ≤ i ∧ i ≤ 11 ∨ a = p ∧ i = 3 ∨ p + 6 ≤ a ∧ a ≤ p + 8 by have z : a = 1 ∧ 6 ≤ i ∧ i ≤ 9 := z; omega)
            refine to_an (pc := 68) rw_41_68 rfl ?_
            refine to_an (pc := 69) rw_41_69 rfl ?_
            refine s_v (pc := 70) rw_41_70 (by omega) (ls0 := [.ref p, .ref 1]) rfl (Nat.le_of_ble_eq_true rfl) (Nat.le_of_ble_eq_true rfl) rfl (to_rc rfl rfl rfl (g_o hG82 (by rcases hp with rfl | rfl <;> rfl))) rfl ?_
            have j_87 := (PLc_f (fun a i z => F_n F81 (show ¬ (a = 1 ∧ 6 ≤ i ∧ i ≤ 9) by omega) rfl) (F_nl F81 (show ¬ (p = 1 ∧ 6 ≤ 4 ∧ 4 ≤ 9) by omega) rfl) j_63)
            refine E_34 hX (by omega) hG82 hp p_83 (by omega) j_87 (p := p) (t := t) (nn := nn) (a := (x_ns t nn (x_ns t nn a))) (sg := sg) (fun r88 M96 hG90 F89 p_91 p_92 p_93 p_94 p_95 => ?_)
            have F97 := FR.c F86 F89 (fun a i z => show a = 1 ∧ 6 ≤ i ∧ i ≤ 11 ∨ a = p ∧ i = 3 ∨ p + 6 ≤ a ∧ a ≤ p + 8 by have z : a = 1 ∧ (i = 10 ∨ i = 11) := z; omega)
            rcases (show r88.toInt = 0 ∨ r88.toInt = 1 by omega) with h98 | h98
            · skip
              have p_99 := p_95 (by omega)
              clear p_93 p_94 p_95
              refine b_ine_f (pc := 73) rw_41_73 (A := r88.toInt) rfl (by omega) ?_
              refine to_c (pc := 76) rw_41_76 (x := (0 : Int32)) rfl rfl ?_
              refine s_r1 (pc := 77) rw_41_77 (A := 0) rfl (by omega) ?_
              have k_100 : (0 : Int32).toInt = 0 := rfl
              have j_101 := (CS_f (fun a i z => F_n F89 (show ¬ (a = 1 ∧ (i = 10 ∨ i = 11)) by omega) rfl) p_83)
              exact h (0 : Int32) M96 hG90 F97 (by omega) (by omega) j_101 (fun _ => x_word_n (by omega)) (fun z => absurd z (by decide))
            · skip
              have p_102 := p_93 (by omega)
              have p_103 := p_94 (by omega)
              clear p_93 p_94 p_95
              refine b_ine_t (pc := 73) rw_41_73 (A := r88.toInt) rfl (by omega) ?_
              refine to_an (pc := 78) rw_41_78 rfl ?_
              refine s_gR (pc := 79) rw_41_79 hG90 (by rcases hp with rfl | rfl <;> rfl) (v := (p + 6)) (by rcases hp with rfl | rfl <;> rfl) ?_
              refine to_an (pc := 82) rw_41_82 rfl ?_
              have c_104 : M96.2.1 p 3 = (M.2.1 p 3) := (F_n F89 (show ¬ (p = 1 ∧ (3 = 10 ∨ 3 = 11)) by omega) (F_n F81 (show ¬ (p = 1 ∧ 6 ≤ 3 ∧ 3 ≤ 9) by omega) (F_n F27 (show ¬ (p < 0) by omega) (F_n F16 (show ¬ (p = 1 ∧ 6 ≤ 3 ∧ 3 ≤ 9) by omega) rfl))))
              refine tt_gI (pc := 83) rw_41_83 (g_o hG90 (by rcases hp with rfl | rfl <;> rfl)) (v := (M.2.1 p 3)) c_104 ?_
              refine to_an (pc := 86) rw_41_86 rfl ?_
              have c_105 : M96.2.1 1 8 = (M85.2.1 1 8) := (F_n F89 (show ¬ (1 = 1 ∧ (8 = 10 ∨ 8 = 11)) by omega) rfl)
              refine tt_gI (pc := 87) rw_41_87 (g_o hG90 rfl) (v := (M85.2.1 1 8)) c_105 ?_
              refine s_ias (pc := 90) rw_41_90 hG90 (by rcases hp with rfl | rfl <;> rfl) (n := 12) (by rcases hp with rfl | rfl <;> rfl) (A := (M.2.1 p 3).toInt) rfl (by omega) (by omega) (fun M107 W106 => ?_)
              have hG108 := g_wf hG90 W106 (by rcases hp with rfl | rfl <;> rfl) (by rcases hp with rfl | rfl <;> rfl) (by omega)
              have F109 := FR.w F97 W106 (show (p + 6) = 1 ∧ 6 ≤ ((M.2.1 p 3).toInt).toNat ∧ ((M.2.1 p 3).toInt).toNat ≤ 11 ∨ (p + 6) = p ∧ ((M.2.1 p 3).toInt).toNat = 3 ∨ p + 6 ≤ (p + 6) ∧ (p + 6) ≤ p + 8 by omega)
              refine to_an (pc := 91) rw_41_91 rfl ?_
              refine s_gR (pc := 92) rw_41_92 hG108 (by rcases hp with rfl | rfl <;> rfl) (v := (p + 7)) (by rcases hp with rfl | rfl <;> rfl) ?_
              refine to_an (pc := 95) rw_41_95 rfl ?_
              have c_110 : M107.2.1 p 3 = (M.2.1 p 3) := (W_n W106 (by omega) c_104)
              refine tt_gI (pc := 96) rw_41_96 (g_o hG108 (by rcases hp with rfl | rfl <;> rfl)) (v := (M.2.1 p 3)) c_110 ?_
              refine to_in (pc := 99) rw_41_99 rfl ?_
              refine s_ias (pc := 100) rw_41_100 hG108 (by rcases hp with rfl | rfl <;> rfl) (n := 12) (by rcases hp with rfl | rfl <;> rfl) (A := (M.2.1 p 3).toInt) rfl (by omega) (by omega) (fun M112 W111 => ?_)
              have hG113 := g_w hG108 W111 (A := r26.toInt) rfl (lo := 0) (hi := 7) (by rcases hp with rfl | rfl <;> rfl) (by rcases hp with rfl | rfl <;> rfl) (by omega) (by omega)
              have F114 := FR.w F109 W111 (show (p + 7) = 1 ∧ 6 ≤ ((M.2.1 p 3).toInt).toNat ∧ ((M.2.1 p 3).toInt).toNat ≤ 11 ∨ (p + 7) = p ∧ ((M.2.1 p 3).toInt).toNat = 3 ∨ p + 6 ≤ (p + 7) ∧ (p + 7) ≤ p + 8 by omega)
              refine to_an (pc := 101) rw_41_101 rfl ?_
              refine s_v (pc := 102) rw_41_102 (by omega) (ls0 := [.ref 1]) rfl (Nat.le_of_ble_eq_true rfl) (Nat.le_of_ble_eq_true rfl) rfl (to_rc rfl rfl rfl (g_o hG113 rfl)) rfl ?_
              have j_115 := (CS_f (fun a i z => W_n W111 (by omega) rfl) (CS_f (fun a i z => W_n W106 (by omega) rfl) (CS_f (fun a i z => F_n F89 (show ¬ (a = 1 ∧ (i = 10 ∨ i = 11)) by omega) rfl) p_83)))
              have c_116 : M112.2.1 1 9 = (M85.2.1 1 9) := (W_n W111 (by omega) (W_n W106 (by omega) (F_n F89 (show ¬ (1 = 1 ∧ (9 = 10 ∨ 9 = 11)) by omega) rfl)))
              have t_117 : (M112.2.1 1 9).toInt = (M85.2.1 1 9).toInt := congrArg Int32.toInt c_116
              refine E_83 hX (by omega) hG113 j_115 (by omega) (t := t) (nn := nn) (a := (x_ns t nn (x_ns t nn a))) (fun M122 hG119 F118 p_120 p_121 => ?_)
              have F123 := FR.c F114 F118 (fun a i z => show a = 1 ∧ 6 ≤ i ∧ i ≤ 11 ∨ a = p ∧ i = 3 ∨ p + 6 ≤ a ∧ a ≤ p + 8 by have z : a = 1 ∧ 6 ≤ i ∧ i ≤ 9 := z; omega)
              refine to_an (pc := 105) rw_41_105 rfl ?_
              refine to_an (pc := 106) rw_41_106 rfl ?_
              refine to_in (pc := 107) rw_41_107 rfl ?_
              refine s_v (pc := 108) rw_41_108 (by omega) (ls0 := [.ref p, .ref 1, .int r26, .null, .null, .null, .null, .null, .null]) rfl (Nat.le_of_ble_eq_true rfl) (Nat.le_of_ble_eq_true rfl) rfl (to_rc rfl rfl rfl (g_o hG119 (by rcases hp with rfl | rfl <;> rfl))) rfl ?_
              have j_124 := (PLc_f (fun a i z => F_n F118 (show ¬ (a = 1 ∧ 6 ≤ i ∧ i ≤ 9) by omega) rfl) (F_nl F118 (show ¬ (p = 1 ∧ 6 ≤ 4 ∧ 4 ≤ 9) by omega) rfl) (PLc_f (fun a i z => W_n W111 (by omega) rfl) (W_j W111 rfl) (PLc_f (fun a i z => W_n W106 (by omega) rfl) (W_j W106 rfl) (PLc_f (fun a i z => F_n F89 (show ¬ (a = 1 ∧ (i = 10 ∨ i = 11)) by omega) rfl) (F_nl F89 (show ¬ (p = 1 ∧ (4 = 10 ∨ 4 = 11)) by omega) rfl) j_87))))
              have c_125 : M122.2.1 p 3 = (M.2.1 p 3) := (F_n F118 (show ¬ (p = 1 ∧ 6 ≤ 3 ∧ 3 ≤ 9) by omega) (W_n W111 (by omega) c_110))
              have t_126 : (M122.2.1 p 3).toInt = (M.2.1 p 3).toInt := congrArg Int32.toInt c_125
              refine E_42 hX (by omega) hG119 hp p_120 (by omega) j_124 (by omega) (by omega) (by omega) (by omega) (by omega) (p := p) (f := r26) (t := t) (nn := nn) (a := (x_ns t nn (x_ns t nn (x_ns t nn a)))) (sg := sg) (k := k) (nm := (x_val t nn (x_ns t nn (x_ns t nn a)))) (fun r127 M136 hG129 F128 p_130 p_131 p_132 p_133 p_134 p_135 => ?_)
              have F137 := FR.c F123 F128 (fun a i z => show a = 1 ∧ 6 ≤ i ∧ i ≤ 11 ∨ a = p ∧ i = 3 ∨ p + 6 ≤ a ∧ a ≤ p + 8 by have z : a = 1 ∧ 6 ≤ i ∧ i ≤ 11 ∨ a = p + 8 := z; omega)
              rcases (show r127.toInt = 0 ∨ r127.toInt = 1 by omega) with h138 | h138
              · skip
                have p_139 := p_134 (by omega)
                clear p_134 p_135
                refine b_ine_f (pc := 111) rw_41_111 (A := r127.toInt) rfl (by omega) ?_
                refine to_c (pc := 114) rw_41_114 (x := (0 : Int32)) rfl rfl ?_
                refine s_r1 (pc := 115) rw_41_115 (A := 0) rfl (by omega) ?_
                have k_140 : (0 : Int32).toInt = 0 := rfl
                have z_141 : x_word t nn sg (x_ns t nn a) k = x_rc t nn sg r26.toInt (x_val t nn (x_ns t nn (x_ns t nn a))) k 6 0 0 (x_ns t nn (x_ns t nn (x_ns t nn a))) := x_word_y (by omega) (by omega)
                exact h (0 : Int32) M136 hG129 F137 (by omega) (by omega) p_132 (fun _ => z_141.trans p_139) (fun z => absurd z (by decide))
              · skip
                have p_142 := p_135 (by omega)
                clear p_134 p_135
                refine b_ine_t (pc := 111) rw_41_111 (A := r127.toInt) rfl (by omega) ?_
                refine to_an (pc := 116) rw_41_116 rfl ?_
                refine to_dupr (pc := 117) rw_41_117 ?_
                have c_143 : M136.2.1 p 3 = (M.2.1 p 3) := (F_n F128 (show ¬ (p = 1 ∧ 6 ≤ 3 ∧ 3 ≤ 11 ∨ p = p + 8) by omega) c_125)
                refine tt_gI (pc := 118) rw_41_118 (g_o hG129 (by rcases hp with rfl | rfl <;> rfl)) (v := (M.2.1 p 3)) c_143 ?_
                refine to_c (pc := 121) rw_41_121 (x := (1 : Int32)) rfl rfl ?_
                refine s_add (pc := 122) rw_41_122 (A := (M.2.1 p 3).toInt) (B := 1) rfl rfl (by omega) (fun v144 e145 => ?_)
                have r_146 : (M136.2.1 (p + 6) sg.2.2.1.toNat).toInt = (M85.2.1 1 8).toInt := by rw [show sg.2.2.1.toNat = ((M.2.1 p 3).toInt).toNat by omega, show M136.2.1 (p + 6) ((M.2.1 p 3).toInt).toNat = (M85.2.1 1 8) from (F_n F128 (show ¬ ((p + 6) = 1 ∧ 6 ≤ ((M.2.1 p 3).toInt).toNat ∧ ((M.2.1 p 3).toInt).toNat ≤ 11 ∨ (p + 6) = p + 8) by omega) (F_n F118 (show ¬ ((p + 6) = 1 ∧ 6 ≤ ((M.2.1 p 3).toInt).toNat ∧ ((M.2.1 p 3).toInt).toNat ≤ 9) by omega) (W_n W111 (by omega) (W_e W106))))]
                have r_147 : (M136.2.1 (p + 7) sg.2.2.1.toNat).toInt = r26.toInt := by rw [show sg.2.2.1.toNat = ((M.2.1 p 3).toInt).toNat by omega, show M136.2.1 (p + 7) ((M.2.1 p 3).toInt).toNat = r26 from (F_n F128 (show ¬ ((p + 7) = 1 ∧ 6 ≤ ((M.2.1 p 3).toInt).toNat ∧ ((M.2.1 p 3).toInt).toNat ≤ 11 ∨ (p + 7) = p + 8) by omega) (F_n F118 (show ¬ ((p + 7) = 1 ∧ 6 ≤ ((M.2.1 p 3).toInt).toNat ∧ ((M.2.1 p 3).toInt).toNat ≤ 9) by omega) (W_e W111)))]
                refine s_pI (pc := 123) rw_41_123 hG129 (by rcases hp with rfl | rfl <;> rfl) (fun M149 W148 => ?_)
                have hG150 := g_w hG129 W148 (A := v144.toInt) rfl (lo := 0) (hi := 12) (by rcases hp with rfl | rfl <;> rfl) (by rcases hp with rfl | rfl <;> rfl) (by omega) (by omega)
                have F151 := FR.w F137 W148 (show p = 1 ∧ 6 ≤ 3 ∧ 3 ≤ 11 ∨ p = p ∧ 3 = 3 ∨ p + 6 ≤ p ∧ p ≤ p + 8 by omega)
                refine to_c (pc := 126) rw_41_126 (x := (1 : Int32)) rfl rfl ?_
                refine s_r1 (pc := 127) rw_41_127 (A := 1) rfl (by omega) ?_
                have k_152 : (1 : Int32).toInt = 1 := rfl
                have j_153 := (CS_f (fun a i z => W_n W148 (by omega) rfl) p_132)
                have c_154 : M149.2.1 1 9 = (M136.2.1 1 9) := (W_n W148 (by omega) rfl)
                have t_155 : (M149.2.1 1 9).toInt = (M136.2.1 1 9).toInt := congrArg Int32.toInt c_154
                have z_156 : x_word t nn sg (x_ns t nn a) k = x_rc t nn sg r26.toInt (x_val t nn (x_ns t nn (x_ns t nn a))) k 6 0 0 (x_ns t nn (x_ns t nn (x_ns t nn a))) := x_word_y (by omega) (by omega)
                have z_157 := PLc_wp (nm := x_val t nn (x_ns t nn (x_ns t nn a))) (f := r26.toInt) p_133 W148 (by omega) (by omega) (by omega) (r_146.trans (by omega)) (r_147.trans (by omega))
                exact h (1 : Int32) M149 hG150 F151 (by omega) (by omega) j_153 (fun z => absurd z (by decide)) (fun _ => by rw [show (M149.2.1 1 9).toInt = (M136.2.1 1 9).toInt by omega, z_156]; rcases p_142 with h9 | h9; exact Or.inl ⟨_, h9, z_157, (by show sg.2.1 + (sg.2.2.1 + 1) = _; omega)⟩; exact Or.inr h9)
    · refine to_an (pc := 27) rw_41_27 rfl ?_
      refine to_c (pc := 28) rw_41_28 (x := (1 : Int32)) rfl rfl ?_
      refine s_v (pc := 29) rw_41_29 (by omega) (ls0 := [.ref 1, .int (1 : Int32)]) rfl (Nat.le_of_ble_eq_true rfl) (Nat.le_of_ble_eq_true rfl) rfl (to_rc rfl rfl rfl (g_o hG17 rfl)) rfl ?_
      refine to_an (pc := 0) rw_84_0 rfl ?_
      refine to_in (pc := 1) rw_84_1 rfl ?_
      refine s_pI (pc := 2) rw_84_2 hG17 rfl (fun M159 W158 => ?_)
      have hG160 := g_wf hG17 W158 rfl rfl (by decide)
      have F161 := FR.w F21 W158 (show 1 = 1 ∧ 6 ≤ 10 ∧ 10 ≤ 11 ∨ 1 = p ∧ 10 = 3 ∨ p + 6 ≤ 1 ∧ 1 ≤ p + 8 by omega)
      refine to_an (pc := 5) rw_84_5 rfl ?_
      refine to_an (pc := 6) rw_84_6 rfl ?_
      have c_162 : M159.2.1 1 9 = (M20.2.1 1 9) := (W_n W158 (by decide) rfl)
      refine tt_gI (pc := 7) rw_84_7 (g_o hG160 rfl) (v := (M20.2.1 1 9)) c_162 ?_
      refine s_pI (pc := 10) rw_84_10 hG160 rfl (fun M164 W163 => ?_)
      have hG165 := g_wf hG160 W163 rfl rfl (by decide)
      have F166 := FR.w F161 W163 (show 1 = 1 ∧ 6 ≤ 11 ∧ 11 ≤ 11 ∨ 1 = p ∧ 11 = 3 ∨ p + 6 ≤ 1 ∧ 1 ≤ p + 8 by omega)
      refine to_c (pc := 13) rw_84_13 (x := (0 : Int32)) rfl rfl ?_
      refine s_r1 (pc := 14) rw_84_14 (A := 0) rfl (by omega) ?_
      refine s_r1 (pc := 32) rw_41_32 (A := 0) rfl (by omega) ?_
      have k_167 : (0 : Int32).toInt = 0 := rfl
      have j_168 := (CS_f (fun a i z => W_n W163 (by omega) rfl) (CS_f (fun a i z => W_n W158 (by omega) rfl) p_18))
      exact h (0 : Int32) M164 hG165 F166 (by omega) (by omega) j_168 (fun _ => x_word_n (by omega)) (fun z => absurd z (by decide))
  · refine to_an (pc := 9) rw_41_9 rfl ?_
    refine to_c (pc := 10) rw_41_10 (x := (2 : Int32)) rfl rfl ?_
    refine s_v (pc := 11) rw_41_11 (by omega) (ls0 := [.ref 1, .int (2 : Int32)]) rfl (Nat.le_of_ble_eq_true rfl) (Nat.le_of_ble_eq_true rfl) rfl (to_rc rfl rfl rfl (g_o hG rfl)) rfl ?_
    refine to_an (pc := 0) rw_84_0 rfl ?_
    refine to_in (pc := 1) rw_84_1 rfl ?_
    refine s_pI (pc := 2) rw_84_2 hG rfl (fun M170 W169 => ?_)
    have hG171 := g_wf hG W169 rfl rfl (by decide)
    have F172 := FR.w F0 W169 (show 1 = 1 ∧ 6 ≤ 10 ∧ 10 ≤ 11 ∨ 1 = p ∧ 10 = 3 ∨ p + 6 ≤ 1 ∧ 1 ≤ p + 8 by omega)
    refine to_an (pc := 5) rw_84_5 rfl ?_
    refine to_an (pc := 6) rw_84_6 rfl ?_
    have c_173 : M170.2.1 1 9 = (M.2.1 1 9) := (W_n W169 (by decide) rfl)
    refine tt_gI (pc := 7) rw_84_7 (g_o hG171 rfl) (v := (M.2.1 1 9)) c_173 ?_
    refine s_pI (pc := 10) rw_84_10 hG171 rfl (fun M175 W174 => ?_)
    have hG176 := g_wf hG171 W174 rfl rfl (by decide)
    have F177 := FR.w F172 W174 (show 1 = 1 ∧ 6 ≤ 11 ∧ 11 ≤ 11 ∨ 1 = p ∧ 11 = 3 ∨ p + 6 ≤ 1 ∧ 1 ≤ p + 8 by omega)
    refine to_c (pc := 13) rw_84_13 (x := (0 : Int32)) rfl rfl ?_
    refine s_r1 (pc := 14) rw_84_14 (A := 0) rfl (by omega) ?_
    refine s_r1 (pc := 14) rw_41_14 (A := 0) rfl (by omega) ?_
    have k_178 : (0 : Int32).toInt = 0 := rfl
    have j_179 := (CS_f (fun a i z => W_n W174 (by omega) rfl) (CS_f (fun a i z => W_n W169 (by omega) rfl) q1))
    exact h (0 : Int32) M175 hG176 F177 (by omega) (by omega) j_179 (fun _ => x_word_n (by omega)) (fun z => absurd z (by decide))
