set_option maxRecDepth 4000 in
set_option maxHeartbeats 0 in
theorem U_42_0 {X : mm_X} {d : Nat} {M : mm_M} {Q : Option Value → mm_M → Prop} {p : Nat} {f : Int32} {t : Nat → Int} {nn : Int} {a : Int} {sg : x_S} {k : x_K} {nm : Int} (hX : g_X X) (hd : 2 ≤ d) (hp : p = 49 ∨ p = 58) (q1 : CS M t nn) (q2 : (M.2.1 1 9).toInt = a) (q3 : PLc M p sg) (q4 : CW M p sg) (q5 : 0 ≤ f.toInt) (q6 : f.toInt ≤ 7) (q7 : f.toInt < sg.2.1) (q8 : x_row sg 2 f.toInt = 3) (q9 : (M.2.1 p 3).toInt ≤ 11) (h : ∀ (r : Int32) (M1 : mm_M), g_G M1 → FR (md_c42e p) M M1 → (0 ≤ r.toInt) → (r.toInt ≤ 1) → CS M1 t nn → PLc M1 p sg → CW M1 p sg → ((r.toInt = 0 → x_rc t nn sg f.toInt nm k 6 0 0 a = none)) → ((r.toInt = 1 → x_rc t nn sg f.toInt nm k 6 0 0 a = k (M1.2.1 1 9).toInt (x_pushw sg nm f.toInt (M1.2.2.1 (p + 8) sg.2.2.1.toNat).toInt) ∨ x_rc t nn sg f.toInt nm k 6 0 0 a = none ∧ ¬ (x_kind t nn (M1.2.1 1 9).toInt = 4 ∧ x_val t nn (M1.2.1 1 9).toInt = 59))) → Q (some (.int r)) M1) : ∀ nn9 : Nat, (∀ (N : mm_M) (y3 : Int64) (x5 : Int32) (u6 : Value) (u7 : Value) (u8 : Value), g_G N → FR (md_c42e p) M N → (0 ≤ x5.toInt) → (x5.toInt ≤ 4) → (x5.toInt ≤ x_row sg 5 f.toInt) → ((N.2.1 p 3).toInt ≤ 11) → (CS N t nn) → (PLc N p sg) → (CW N p sg) → (x_rc t nn sg f.toInt nm k (6 - x5.toInt).toNat x5.toInt y3 (N.2.1 1 9).toInt = x_rc t nn sg f.toInt nm k 6 0 0 a) → 10 - x5.toInt < (nn9 : Int) → mm_T X d 42 5 [.ref p, .ref 1, .int f, .long y3, .null, .int x5, u6, u7, u8] [] N Q) := by
  intro nn9
  induction nn9 with
  | zero =>
    intro N y3 x5 u6 u7 u8 hG F0 g1 g2 g3 g4 g5 g6 g7 g8 hm
    have b_1 := g_b hG (a := p) (i := 3) (lo := 0) (hi := 12) (by rcases hp with rfl | rfl <;> rfl) (by rcases hp with rfl | rfl <;> rfl)
    exfalso; omega
  | succ nn9 ih =>
    intro N y3 x5 u6 u7 u8 hG F0 g1 g2 g3 g4 g5 g6 g7 g8 hm
    have b_2 := g_b hG (a := p) (i := 3) (lo := 0) (hi := 12) (by rcases hp with rfl | rfl <;> rfl) (by rcases hp with rfl | rfl <;> rfl)
    have z_3 := g6.2.1
    have z_4 := g6.2.2.1
    have z_5 := g6.2.2.2.1
    have z_6 := g6.1
    have z_7 := z_6.1
    have z_8 := z_6.2.1
    have z_9 := z_6.2.2.1
    have z_10 := z_6.2.2.2.1
    have z_11 := z_6.2.2.2.2.1
    have z_12 := z_6.2.2.2.2.2.1
    have b_13 := g_b hG (a := p) (i := 2) (lo := 0) (hi := 8) (by rcases hp with rfl | rfl <;> rfl) (by rcases hp with rfl | rfl <;> rfl)
    have z_14 := g6.1.2.2.2.2.2.2.2 f.toInt (by omega) (by omega)
    refine to_i (pc := 5) rw_42_5 rfl (b_ieq (pc := 7) rw_42_7 (A := x5.toInt) rfl (fun h15 => ?_) (fun h15 => ?_))
    · refine to_i (pc := 29) rw_42_29 rfl (to_an (pc := 31) rw_42_31 rfl (s_gR (pc := 32) rw_42_32 hG (by rcases hp with rfl | rfl <;> rfl) (v := (p + 5)) (by rcases hp with rfl | rfl <;> rfl) (to_in (pc := 35) rw_42_35 rfl (s_ial (pc := 36) rw_42_36 hG (by rcases hp with rfl | rfl <;> rfl) (n := 8) (by rcases hp with rfl | rfl <;> rfl) (by rcases hp with rfl | rfl <;> rfl) (A := f.toInt) rfl (by omega) (by omega) (lo := 0) (hi := 24) (by rcases hp with rfl | rfl <;> rfl) (by rcases hp with rfl | rfl <;> rfl) (fun v16 w_17 _ _ => ?_)))))
      have z_18 := PLc_r g6 5 (by decide) (by decide) (k := f.toInt) (by omega) (by omega) w_17
      refine b_cge (pc := 37) rw_42_37 (A := x5.toInt) (B := v16.toInt) rfl rfl (fun h19 => ?_) (fun h19 => ?_)
      · refine to_c (pc := 50) rw_42_50 (x := (-1 : Int32)) rfl rfl (to_is (pc := 51) rw_42_51 (ls2 := [.ref p, .ref 1, .int f, .long y3, .null, .int x5, .int (-1 : Int32), u7, u8]) rfl rfl (to_an (pc := 53) rw_42_53 rfl (to_c (pc := 54) rw_42_54 (x := (0 : Int32)) rfl rfl (to_i (pc := 55) rw_42_55 rfl (s_v (pc := 57) rw_42_57 (dp0 hd (by decide)) (ls0 := [.ref 1, .int (0 : Int32), .int (-1 : Int32)]) rfl (Nat.le_of_ble_eq_true rfl) (Nat.le_of_ble_eq_true rfl) rfl (to_rc rfl rfl rfl (g_o hG rfl)) rfl ?_)))))
        have k_20 : (0 : Int32).toInt = 0 := rfl
        have k_21 : (-1 : Int32).toInt = -1 := rfl
        refine E_88 hX (dp1 hd (by decide)) hG g5 (by omega) (l := (0 : Int32)) (m := (-1 : Int32)) (t := t) (nn := nn) (a := (N.2.1 1 9).toInt) (fun r22 M29 hG24 F23 p_25 p_26 p_27 p_28 => ?_)
        have F30 := FR.c F0 F23 (fun a i z => show a = 1 ∧ 6 ≤ i ∧ i ≤ 11 ∨ a = p + 8 by have z : a = 1 ∧ (i = 10 ∨ i = 11) := z; omega)
        rcases (show r22.toInt = 0 ∨ r22.toInt = 1 by omega) with h31 | h31
        · skip
          have p_32 := p_28 (by omega)
          clear p_27 p_28
          have z_33 := x_val_b (t := t) (nn := nn) (a := (N.2.1 1 9).toInt)
          refine b_ine_f (pc := 60) rw_42_60 (A := r22.toInt) rfl (by omega) (to_c (pc := 63) rw_42_63 (x := (0 : Int32)) rfl rfl (s_r1 (pc := 64) rw_42_64 (A := 0) rfl (by decide) ?_))
          have j_34 := (CS_f (tg_34 F23) g5)
          have j_35 := (PLc_f (fun a i z => F_n F23 (show ¬ (a = 1 ∧ (i = 10 ∨ i = 11)) by omega) rfl) (F_nl F23 (show ¬ (p = 1 ∧ (4 = 10 ∨ 4 = 11)) by omega) rfl) g6)
          have j_36 := (CW_f (fun k hk9 => F_nl F23 (show ¬ ((p + 8) = 1 ∧ (k = 10 ∨ k = 11)) by omega) rfl) g7)
          exact h (0 : Int32) M29 hG24 F30 (by decide) (by decide) j_34 j_35 j_36 (fun _ => g8.symm.trans (by first | exact x_rc_n1 (by omega) (by omega) | exact x_rc_n2 (by omega) (by omega) | exact (if g9 : x_kind t nn (N.2.1 1 9).toInt = 3 then x_rc_n1 g9 (by omega) else x_rc_n2 g9 (by omega)))) (fun z => absurd z (by decide))
        · skip
          have p_37 := p_27 (by omega)
          clear p_27 p_28
          have c_38 : M29.2.1 1 8 = (N.2.1 1 8) := (F_n F23 (show ¬ (1 = 1 ∧ (8 = 10 ∨ 8 = 11)) by decide) rfl)
          have z_39 := x_val_b (t := t) (nn := nn) (a := (N.2.1 1 9).toInt) (by omega)
          refine b_ine_t (pc := 60) rw_42_60 (A := r22.toInt) rfl (by omega) (to_cl (pc := 65) rw_42_65 rfl (x := (1 : Int64)) rfl (to_an (pc := 66) rw_42_66 rfl (s_gR (pc := 67) rw_42_67 hG24 (by rcases hp with rfl | rfl <;> rfl) (v := (p + 3)) (by rcases hp with rfl | rfl <;> rfl) (to_in (pc := 70) rw_42_70 rfl (s_ial (pc := 71) rw_42_71 hG24 (by rcases hp with rfl | rfl <;> rfl) (n := 8) (by rcases hp with rfl | rfl <;> rfl) (by rcases hp with rfl | rfl <;> rfl) (A := f.toInt) rfl (by omega) (by omega) (lo := 0) (hi := 59) (by rcases hp with rfl | rfl <;> rfl) (by rcases hp with rfl | rfl <;> rfl) (fun v40 w_41 _ _ => ?_))))))
          have j_42 := (PLc_f (fun a i z => F_n F23 (show ¬ (a = 1 ∧ (i = 10 ∨ i = 11)) by omega) rfl) (F_nl F23 (show ¬ (p = 1 ∧ (4 = 10 ∨ 4 = 11)) by omega) rfl) g6)
          have z_43 := PLc_r j_42 3 (by decide) (by decide) (k := f.toInt) (by omega) (by omega) w_41
          refine to_an (pc := 72) rw_42_72 rfl (tt_gI (pc := 73) rw_42_73 (g_o hG24 rfl) (v := (N.2.1 1 8)) c_38 (s_add (pc := 76) rw_42_76 (A := v40.toInt) (B := (N.2.1 1 8).toInt) rfl rfl (by omega) (fun v44 e45 => to_2s (pc := 77) rw_42_77 (v := ((1 : Int64) <<< (v44.toInt64 &&& 63))) rfl (to_ls (pc := 78) rw_42_78 (ls2 := [.ref p, .ref 1, .int f, .long y3, .null, .int x5, .int (-1 : Int32), .long ((1 : Int64) <<< (v44.toInt64 &&& 63)), .null]) rfl rfl (to_ln (pc := 80) rw_42_80 rfl rfl rfl (to_l (pc := 81) rw_42_81 rfl rfl rfl (to_2l (pc := 83) rw_42_83 (v := (y3 &&& ((1 : Int64) <<< (v44.toInt64 &&& 63)))) rfl (to_cl (pc := 84) rw_42_84 rfl (x := (0 : Int64)) rfl (s_lcmpE (pc := 85) rw_42_85 (fun v46 e47 => ?_))))))))))
          have b_48 := x_eq_b (x := (y3 &&& ((1 : Int64) <<< (v44.toInt64 &&& 63)))) (y := (0 : Int64))
          have z_49 := x_hit_e (v := v44) (bits := y3) (h := (x_row sg 3 f.toInt + x_val t nn (N.2.1 1 9).toInt))
          refine b_ieq (pc := 86) rw_42_86 (A := v46.toInt) rfl (fun h50 => ?_) (fun h50 => ?_)
          · refine to_ln (pc := 95) rw_42_95 rfl rfl rfl (to_l (pc := 96) rw_42_96 rfl rfl rfl (to_2l (pc := 98) rw_42_98 (v := (y3 ||| ((1 : Int64) <<< (v44.toInt64 &&& 63)))) rfl (to_lsn (pc := 99) rw_42_99 (ls2 := [.ref p, .ref 1, .int f, .long (y3 ||| ((1 : Int64) <<< (v44.toInt64 &&& 63))), .null, .int x5, .int (-1 : Int32), .long ((1 : Int64) <<< (v44.toInt64 &&& 63)), .null]) rfl rfl (s_inc (pc := 100) rw_42_100 (ls2 := fun v => [.ref p, .ref 1, .int f, .long (y3 ||| ((1 : Int64) <<< (v44.toInt64 &&& 63))), .null, .int v, .int (-1 : Int32), .long ((1 : Int64) <<< (v44.toInt64 &&& 63)), .null]) rfl rfl (fun _ => rfl) (A := x5.toInt) (B := 1) rfl rfl (by omega) (fun v51 e52 => to_an (pc := 103) rw_42_103 rfl (s_v (pc := 104) rw_42_104 (dp0 hd (by decide)) (ls0 := [.ref 1]) rfl (Nat.le_of_ble_eq_true rfl) (Nat.le_of_ble_eq_true rfl) rfl (to_rc rfl rfl rfl (g_o hG24 rfl)) rfl ?_))))))
            have j_53 := (CS_f (tg_34 F23) g5)
            have c_54 : M29.2.1 1 9 = (N.2.1 1 9) := (F_n F23 (show ¬ (1 = 1 ∧ (9 = 10 ∨ 9 = 11)) by decide) rfl)
            have t_55 : (M29.2.1 1 9).toInt = (N.2.1 1 9).toInt := congrArg Int32.toInt c_54
            refine E_83 hX (dp1 hd (by decide)) hG24 j_53 (by omega) (t := t) (nn := nn) (a := (N.2.1 1 9).toInt) (fun M60 hG57 F56 p_58 p_59 => ?_)
            have F61 := FR.c F30 F56 (fun a i z => show a = 1 ∧ 6 ≤ i ∧ i ≤ 11 ∨ a = p + 8 by have z : a = 1 ∧ 6 ≤ i ∧ i ≤ 9 := z; omega)
            refine to_go (pc := 107) rw_42_107 ?_
            have c_62 : M60.2.1 p 3 = (N.2.1 p 3) := (F_n F56 (show ¬ (p = 1 ∧ 6 ≤ 3 ∧ 3 ≤ 9) by omega) (F_n F23 (show ¬ (p = 1 ∧ (3 = 10 ∨ 3 = 11)) by omega) rfl))
            have t_63 : (M60.2.1 p 3).toInt = (N.2.1 p 3).toInt := congrArg Int32.toInt c_62
            have j_64 := (PLc_f (fun a i z => F_n F56 (show ¬ (a = 1 ∧ 6 ≤ i ∧ i ≤ 9) by omega) rfl) (F_nl F56 (show ¬ (p = 1 ∧ 6 ≤ 4 ∧ 4 ≤ 9) by omega) rfl) j_42)
            have j_65 := (CW_f (fun k hk9 => F_nl F56 (show ¬ ((p + 8) = 1 ∧ 6 ≤ k ∧ k ≤ 9) by omega) rfl) (CW_f (fun k hk9 => F_nl F23 (show ¬ ((p + 8) = 1 ∧ (k = 10 ∨ k = 11)) by omega) rfl) g7))
            exact ih M60 (y3 ||| ((1 : Int64) <<< (v44.toInt64 &&& 63))) v51 (.int (-1 : Int32)) (.long ((1 : Int64) <<< (v44.toInt64 &&& 63))) (.null) hG57 F61 (by omega) (by omega) (by omega) (by omega) p_58 j_64 j_65 (x_rc_s (fu := (6 - x5.toInt).toNat) (told := x5.toInt) (bits := y3) (b := (N.2.1 1 9).toInt) (by omega) (by omega) (by omega) (by omega) (by omega) (congrArg (fun z => y3 ||| z) (x_bit_e (v := v44) (by omega))) g8) (by omega)
          · refine to_an (pc := 89) rw_42_89 rfl (to_c (pc := 90) rw_42_90 (x := (3 : Int32)) rfl rfl (s_v (pc := 91) rw_42_91 (dp0 hd (by decide)) (ls0 := [.ref 1, .int (3 : Int32)]) rfl (Nat.le_of_ble_eq_true rfl) (Nat.le_of_ble_eq_true rfl) rfl (to_rc rfl rfl rfl (g_o hG24 rfl)) rfl (to_an (pc := 0) rw_84_0 rfl (to_in (pc := 1) rw_84_1 rfl (s_pI (pc := 2) rw_84_2 hG24 rfl (fun M67 W66 => ?_))))))
            have hG68 := g_wf hG24 W66 rfl rfl (by decide)
            have F69 := FR.w F30 W66 (show 1 = 1 ∧ 6 ≤ 10 ∧ 10 ≤ 11 ∨ 1 = p + 8 by omega)
            refine to_an (pc := 5) rw_84_5 rfl (to_an (pc := 6) rw_84_6 rfl ?_)
            have c_70 : M67.2.1 1 9 = (N.2.1 1 9) := (W_n W66 (by decide) (F_n F23 (show ¬ (1 = 1 ∧ (9 = 10 ∨ 9 = 11)) by decide) rfl))
            refine tt_gI (pc := 7) rw_84_7 (g_o hG68 rfl) (v := (N.2.1 1 9)) c_70 (s_pI (pc := 10) rw_84_10 hG68 rfl (fun M72 W71 => ?_))
            have hG73 := g_wf hG68 W71 rfl rfl (by decide)
            have F74 := FR.w F69 W71 (show 1 = 1 ∧ 6 ≤ 11 ∧ 11 ≤ 11 ∨ 1 = p + 8 by omega)
            refine to_c (pc := 13) rw_84_13 (x := (0 : Int32)) rfl rfl (s_r1 (pc := 14) rw_84_14 (A := 0) rfl (by decide) (s_r1 (pc := 94) rw_42_94 (A := 0) rfl (by decide) ?_))
            have j_75 := (CS_f (fun a i z => W_n W71 (tg_32 a i z) rfl) (CS_f (fun a i z => W_n W66 (tg_33 a i z) rfl) (CS_f (tg_34 F23) g5)))
            have j_76 := (PLc_f (fun a i z => W_n W71 (by /-r1,11-/ omega) rfl) (W_j W71 rfl) (PLc_f (fun a i z => W_n W66 (by /-r1,10-/ omega) rfl) (W_j W66 rfl) j_42))
            have j_77 := (CW_f (fun k hk9 => W_j W71 rfl) (CW_f (fun k hk9 => W_j W66 rfl) (CW_f (fun k hk9 => F_nl F23 (show ¬ ((p + 8) = 1 ∧ (k = 10 ∨ k = 11)) by omega) rfl) g7)))
            exact h (0 : Int32) M72 hG73 F74 (by decide) (by decide) j_75 j_76 j_77 (fun _ => g8.symm.trans (by first | exact x_rc_n1 (by omega) (by omega) | exact x_rc_n2 (by omega) (by omega) | exact (if g9 : x_kind t nn (N.2.1 1 9).toInt = 3 then x_rc_n1 g9 (by omega) else x_rc_n2 g9 (by omega)))) (fun z => absurd z (by decide))
      · refine to_an (pc := 40) rw_42_40 rfl (to_in (pc := 41) rw_42_41 rfl (s_v (pc := 42) rw_42_42 (dp0 hd (by decide)) (ls0 := [.ref p, .int f]) rfl (Nat.le_of_ble_eq_true rfl) (Nat.le_of_ble_eq_true rfl) rfl (to_rc rfl rfl rfl (g_o hG (by rcases hp with rfl | rfl <;> rfl))) rfl (to_an (pc := 0) rw_47_0 rfl (s_gR (pc := 1) rw_47_1 hG (by rcases hp with rfl | rfl <;> rfl) (v := (p + 4)) (by rcases hp with rfl | rfl <;> rfl) (to_in (pc := 4) rw_47_4 rfl (s_ial (pc := 5) rw_47_5 hG (by rcases hp with rfl | rfl <;> rfl) (n := 8) (by rcases hp with rfl | rfl <;> rfl) (by rcases hp with rfl | rfl <;> rfl) (A := f.toInt) rfl (by omega) (by omega) (lo := 0) (hi := 63) (by rcases hp with rfl | rfl <;> rfl) (by rcases hp with rfl | rfl <;> rfl) (fun v78 w_79 _ _ => ?_)))))))
        have z_80 := PLc_r g6 4 (by decide) (by decide) (k := f.toInt) (by omega) (by omega) w_79
        refine to_an (pc := 6) rw_47_6 rfl (s_gR (pc := 7) rw_47_7 hG (by rcases hp with rfl | rfl <;> rfl) (v := (p + 3)) (by rcases hp with rfl | rfl <;> rfl) (to_in (pc := 10) rw_47_10 rfl (s_ial (pc := 11) rw_47_11 hG (by rcases hp with rfl | rfl <;> rfl) (n := 8) (by rcases hp with rfl | rfl <;> rfl) (by rcases hp with rfl | rfl <;> rfl) (A := f.toInt) rfl (by omega) (by omega) (lo := 0) (hi := 59) (by rcases hp with rfl | rfl <;> rfl) (by rcases hp with rfl | rfl <;> rfl) (fun v81 w_82 _ _ => ?_))))
        have z_83 := PLc_r g6 3 (by decide) (by decide) (k := f.toInt) (by omega) (by omega) w_82
        refine s_sub (pc := 12) rw_47_12 (A := v78.toInt) (B := v81.toInt) rfl rfl (by omega) (fun v84 e85 => to_c (pc := 13) rw_47_13 (x := (1 : Int32)) rfl rfl (s_add (pc := 14) rw_47_14 (A := v84.toInt) (B := 1) rfl rfl (by omega) (fun v86 e87 => to_r0 (pc := 15) rw_47_15 (to_c (pc := 45) rw_42_45 (x := (1 : Int32)) rfl rfl (s_sub (pc := 46) rw_42_46 (A := v86.toInt) (B := 1) rfl rfl (by omega) (fun v88 e89 => to_go (pc := 47) rw_42_47 (to_is (pc := 51) rw_42_51 (ls2 := [.ref p, .ref 1, .int f, .long y3, .null, .int x5, .int v88, u7, u8]) rfl rfl (to_an (pc := 53) rw_42_53 rfl (to_c (pc := 54) rw_42_54 (x := (0 : Int32)) rfl rfl (to_i (pc := 55) rw_42_55 rfl (s_v (pc := 57) rw_42_57 (dp0 hd (by decide)) (ls0 := [.ref 1, .int (0 : Int32), .int v88]) rfl (Nat.le_of_ble_eq_true rfl) (Nat.le_of_ble_eq_true rfl) rfl (to_rc rfl rfl rfl (g_o hG rfl)) rfl ?_)))))))))))
        have k_90 : (0 : Int32).toInt = 0 := rfl
        refine E_88 hX (dp1 hd (by decide)) hG g5 (by omega) (l := (0 : Int32)) (m := v88) (t := t) (nn := nn) (a := (N.2.1 1 9).toInt) (fun r91 M98 hG93 F92 p_94 p_95 p_96 p_97 => ?_)
        have F99 := FR.c F0 F92 (fun a i z => show a = 1 ∧ 6 ≤ i ∧ i ≤ 11 ∨ a = p + 8 by have z : a = 1 ∧ (i = 10 ∨ i = 11) := z; omega)
        rcases (show r91.toInt = 0 ∨ r91.toInt = 1 by omega) with h100 | h100
        · skip
          have p_101 := p_97 (by omega)
          clear p_96 p_97
          have z_102 := x_val_b (t := t) (nn := nn) (a := (N.2.1 1 9).toInt)
          refine b_ine_f (pc := 60) rw_42_60 (A := r91.toInt) rfl (by omega) (to_c (pc := 63) rw_42_63 (x := (0 : Int32)) rfl rfl (s_r1 (pc := 64) rw_42_64 (A := 0) rfl (by decide) ?_))
          have j_103 := (CS_f (tg_34 F92) g5)
          have j_104 := (PLc_f (fun a i z => F_n F92 (show ¬ (a = 1 ∧ (i = 10 ∨ i = 11)) by omega) rfl) (F_nl F92 (show ¬ (p = 1 ∧ (4 = 10 ∨ 4 = 11)) by omega) rfl) g6)
          have j_105 := (CW_f (fun k hk9 => F_nl F92 (show ¬ ((p + 8) = 1 ∧ (k = 10 ∨ k = 11)) by omega) rfl) g7)
          exact h (0 : Int32) M98 hG93 F99 (by decide) (by decide) j_103 j_104 j_105 (fun _ => g8.symm.trans (by first | exact x_rc_n1 (by omega) (by omega) | exact x_rc_n2 (by omega) (by omega) | exact (if g9 : x_kind t nn (N.2.1 1 9).toInt = 3 then x_rc_n1 g9 (by omega) else x_rc_n2 g9 (by omega)))) (fun z => absurd z (by decide))
        · skip
          have p_106 := p_96 (by omega)
          clear p_96 p_97
          have c_107 : M98.2.1 1 8 = (N.2.1 1 8) := (F_n F92 (show ¬ (1 = 1 ∧ (8 = 10 ∨ 8 = 11)) by decide) rfl)
          have z_108 := x_val_b (t := t) (nn := nn) (a := (N.2.1 1 9).toInt) (by omega)
          refine b_ine_t (pc := 60) rw_42_60 (A := r91.toInt) rfl (by omega) (to_cl (pc := 65) rw_42_65 rfl (x := (1 : Int64)) rfl (to_an (pc := 66) rw_42_66 rfl (s_gR (pc := 67) rw_42_67 hG93 (by rcases hp with rfl | rfl <;> rfl) (v := (p + 3)) (by rcases hp with rfl | rfl <;> rfl) (to_in (pc := 70) rw_42_70 rfl (s_ialk (pc := 71) rw_42_71 hG93 (by rcases hp with rfl | rfl <;> rfl) (n := 8) (by rcases hp with rfl | rfl <;> rfl) (by rcases hp with rfl | rfl <;> rfl) (A := f.toInt) rfl (by omega) (by omega) (v := v81) (F_n F92 (show ¬ ((p + 3) = 1 ∧ ((f.toInt).toNat = 10 ∨ (f.toInt).toNat = 11)) by omega) w_82) (to_an (pc := 72) rw_42_72 rfl (tt_gI (pc := 73) rw_42_73 (g_o hG93 rfl) (v := (N.2.1 1 8)) c_107 (s_add (pc := 76) rw_42_76 (A := v81.toInt) (B := (N.2.1 1 8).toInt) rfl rfl (by omega) (fun v111 e112 => to_2s (pc := 77) rw_42_77 (v := ((1 : Int64) <<< (v111.toInt64 &&& 63))) rfl (to_ls (pc := 78) rw_42_78 (ls2 := [.ref p, .ref 1, .int f, .long y3, .null, .int x5, .int v88, .long ((1 : Int64) <<< (v111.toInt64 &&& 63)), .null]) rfl rfl (to_ln (pc := 80) rw_42_80 rfl rfl rfl ?_)))))))))))
          refine to_l (pc := 81) rw_42_81 rfl rfl rfl (to_2l (pc := 83) rw_42_83 (v := (y3 &&& ((1 : Int64) <<< (v111.toInt64 &&& 63)))) rfl (to_cl (pc := 84) rw_42_84 rfl (x := (0 : Int64)) rfl (s_lcmpE (pc := 85) rw_42_85 (fun v113 e114 => ?_))))
          have b_115 := x_eq_b (x := (y3 &&& ((1 : Int64) <<< (v111.toInt64 &&& 63)))) (y := (0 : Int64))
          have z_116 := x_hit_e (v := v111) (bits := y3) (h := (x_row sg 3 f.toInt + x_val t nn (N.2.1 1 9).toInt))
          refine b_ieq (pc := 86) rw_42_86 (A := v113.toInt) rfl (fun h117 => ?_) (fun h117 => ?_)
          · refine to_ln (pc := 95) rw_42_95 rfl rfl rfl (to_l (pc := 96) rw_42_96 rfl rfl rfl (to_2l (pc := 98) rw_42_98 (v := (y3 ||| ((1 : Int64) <<< (v111.toInt64 &&& 63)))) rfl (to_lsn (pc := 99) rw_42_99 (ls2 := [.ref p, .ref 1, .int f, .long (y3 ||| ((1 : Int64) <<< (v111.toInt64 &&& 63))), .null, .int x5, .int v88, .long ((1 : Int64) <<< (v111.toInt64 &&& 63)), .null]) rfl rfl (s_inc (pc := 100) rw_42_100 (ls2 := fun v => [.ref p, .ref 1, .int f, .long (y3 ||| ((1 : Int64) <<< (v111.toInt64 &&& 63))), .null, .int v, .int v88, .long ((1 : Int64) <<< (v111.toInt64 &&& 63)), .null]) rfl rfl (fun _ => rfl) (A := x5.toInt) (B := 1) rfl rfl (by omega) (fun v118 e119 => to_an (pc := 103) rw_42_103 rfl (s_v (pc := 104) rw_42_104 (dp0 hd (by decide)) (ls0 := [.ref 1]) rfl (Nat.le_of_ble_eq_true rfl) (Nat.le_of_ble_eq_true rfl) rfl (to_rc rfl rfl rfl (g_o hG93 rfl)) rfl ?_))))))
            have j_120 := (CS_f (tg_34 F92) g5)
            have c_121 : M98.2.1 1 9 = (N.2.1 1 9) := (F_n F92 (show ¬ (1 = 1 ∧ (9 = 10 ∨ 9 = 11)) by decide) rfl)
            have t_122 : (M98.2.1 1 9).toInt = (N.2.1 1 9).toInt := congrArg Int32.toInt c_121
            refine E_83 hX (dp1 hd (by decide)) hG93 j_120 (by omega) (t := t) (nn := nn) (a := (N.2.1 1 9).toInt) (fun M127 hG124 F123 p_125 p_126 => ?_)
            have F128 := FR.c F99 F123 (fun a i z => show a = 1 ∧ 6 ≤ i ∧ i ≤ 11 ∨ a = p + 8 by have z : a = 1 ∧ 6 ≤ i ∧ i ≤ 9 := z; omega)
            refine to_go (pc := 107) rw_42_107 ?_
            have c_129 : M127.2.1 p 3 = (N.2.1 p 3) := (F_n F123 (show ¬ (p = 1 ∧ 6 ≤ 3 ∧ 3 ≤ 9) by omega) (F_n F92 (show ¬ (p = 1 ∧ (3 = 10 ∨ 3 = 11)) by omega) rfl))
            have t_130 : (M127.2.1 p 3).toInt = (N.2.1 p 3).toInt := congrArg Int32.toInt c_129
            have j_131 := (PLc_f (fun a i z => F_n F123 (show ¬ (a = 1 ∧ 6 ≤ i ∧ i ≤ 9) by omega) rfl) (F_nl F123 (show ¬ (p = 1 ∧ 6 ≤ 4 ∧ 4 ≤ 9) by omega) rfl) (PLc_f (fun a i z => F_n F92 (show ¬ (a = 1 ∧ (i = 10 ∨ i = 11)) by omega) rfl) (F_nl F92 (show ¬ (p = 1 ∧ (4 = 10 ∨ 4 = 11)) by omega) rfl) g6))
            have j_132 := (CW_f (fun k hk9 => F_nl F123 (show ¬ ((p + 8) = 1 ∧ 6 ≤ k ∧ k ≤ 9) by omega) rfl) (CW_f (fun k hk9 => F_nl F92 (show ¬ ((p + 8) = 1 ∧ (k = 10 ∨ k = 11)) by omega) rfl) g7))
            exact ih M127 (y3 ||| ((1 : Int64) <<< (v111.toInt64 &&& 63))) v118 (.int v88) (.long ((1 : Int64) <<< (v111.toInt64 &&& 63))) (.null) hG124 F128 (by omega) (by omega) (by omega) (by omega) p_125 j_131 j_132 (x_rc_s (fu := (6 - x5.toInt).toNat) (told := x5.toInt) (bits := y3) (b := (N.2.1 1 9).toInt) (by omega) (by omega) (by omega) (by omega) (by omega) (congrArg (fun z => y3 ||| z) (x_bit_e (v := v111) (by omega))) g8) (by omega)
          · refine to_an (pc := 89) rw_42_89 rfl (to_c (pc := 90) rw_42_90 (x := (3 : Int32)) rfl rfl (s_v (pc := 91) rw_42_91 (dp0 hd (by decide)) (ls0 := [.ref 1, .int (3 : Int32)]) rfl (Nat.le_of_ble_eq_true rfl) (Nat.le_of_ble_eq_true rfl) rfl (to_rc rfl rfl rfl (g_o hG93 rfl)) rfl (to_an (pc := 0) rw_84_0 rfl (to_in (pc := 1) rw_84_1 rfl (s_pI (pc := 2) rw_84_2 hG93 rfl (fun M134 W133 => ?_))))))
            have hG135 := g_wf hG93 W133 rfl rfl (by decide)
            have F136 := FR.w F99 W133 (show 1 = 1 ∧ 6 ≤ 10 ∧ 10 ≤ 11 ∨ 1 = p + 8 by omega)
            refine to_an (pc := 5) rw_84_5 rfl (to_an (pc := 6) rw_84_6 rfl ?_)
            have c_137 : M134.2.1 1 9 = (N.2.1 1 9) := (W_n W133 (by decide) (F_n F92 (show ¬ (1 = 1 ∧ (9 = 10 ∨ 9 = 11)) by decide) rfl))
            refine tt_gI (pc := 7) rw_84_7 (g_o hG135 rfl) (v := (N.2.1 1 9)) c_137 (s_pI (pc := 10) rw_84_10 hG135 rfl (fun M139 W138 => ?_))
            have hG140 := g_wf hG135 W138 rfl rfl (by decide)
            have F141 := FR.w F136 W138 (show 1 = 1 ∧ 6 ≤ 11 ∧ 11 ≤ 11 ∨ 1 = p + 8 by omega)
            refine to_c (pc := 13) rw_84_13 (x := (0 : Int32)) rfl rfl (s_r1 (pc := 14) rw_84_14 (A := 0) rfl (by decide) (s_r1 (pc := 94) rw_42_94 (A := 0) rfl (by decide) ?_))
            have j_142 := (CS_f (fun a i z => W_n W138 (tg_32 a i z) rfl) (CS_f (fun a i z => W_n W133 (tg_33 a i z) rfl) (CS_f (tg_34 F92) g5)))
            have j_143 := (PLc_f (fun a i z => W_n W138 (by /-r1,11-/ omega) rfl) (W_j W138 rfl) (PLc_f (fun a i z => W_n W133 (by /-r1,10-/ omega) rfl) (W_j W133 rfl) (PLc_f (fun a i z => F_n F92 (show ¬ (a = 1 ∧ (i = 10 ∨ i = 11)) by omega) rfl) (F_nl F92 (show ¬ (p = 1 ∧ (4 = 10 ∨ 4 = 11)) by omega) rfl) g6)))
            have j_144 := (CW_f (fun k hk9 => W_j W138 rfl) (CW_f (fun k hk9 => W_j W133 rfl) (CW_f (fun k hk9 => F_nl F92 (show ¬ ((p + 8) = 1 ∧ (k = 10 ∨ k = 11)) by omega) rfl) g7)))
            exact h (0 : Int32) M139 hG140 F141 (by decide) (by decide) j_142 j_143 j_144 (fun _ => g8.symm.trans (by first | exact x_rc_n1 (by omega) (by omega) | exact x_rc_n2 (by omega) (by omega) | exact (if g9 : x_kind t nn (N.2.1 1 9).toInt = 3 then x_rc_n1 g9 (by omega) else x_rc_n2 g9 (by omega)))) (fun z => absurd z (by decide))
    · refine to_i (pc := 10) rw_42_10 rfl (to_an (pc := 12) rw_42_12 rfl (s_gR (pc := 13) rw_42_13 hG (by rcases hp with rfl | rfl <;> rfl) (v := (p + 5)) (by rcases hp with rfl | rfl <;> rfl) (to_in (pc := 16) rw_42_16 rfl (s_ial (pc := 17) rw_42_17 hG (by rcases hp with rfl | rfl <;> rfl) (n := 8) (by rcases hp with rfl | rfl <;> rfl) (by rcases hp with rfl | rfl <;> rfl) (A := f.toInt) rfl (by omega) (by omega) (lo := 0) (hi := 24) (by rcases hp with rfl | rfl <;> rfl) (by rcases hp with rfl | rfl <;> rfl) (fun v145 w_146 _ _ => ?_)))))
      have z_147 := PLc_r g6 5 (by decide) (by decide) (k := f.toInt) (by omega) (by omega) w_146
      refine b_cgt (pc := 18) rw_42_18 (A := x5.toInt) (B := v145.toInt) rfl rfl (fun h148 => ?_) (fun h148 => ?_)
      · refine to_an (pc := 110) rw_42_110 rfl (s_gR (pc := 111) rw_42_111 hG (by rcases hp with rfl | rfl <;> rfl) (v := (p + 8)) (by rcases hp with rfl | rfl <;> rfl) (to_an (pc := 114) rw_42_114 rfl (tt_gI (pc := 115) rw_42_115 (g_o hG (by rcases hp with rfl | rfl <;> rfl)) (v := (N.2.1 p 3)) rfl (to_ln (pc := 118) rw_42_118 rfl rfl rfl (s_las (pc := 119) rw_42_119 hG (by rcases hp with rfl | rfl <;> rfl) (n := 12) (by rcases hp with rfl | rfl <;> rfl) (A := (N.2.1 p 3).toInt) rfl (by omega) (by omega) (fun M150 W149 => ?_))))))
        have hG151 := g_wl hG W149
        have F152 := FR.wl F0 W149 (show (p + 8) = 1 ∧ 6 ≤ ((N.2.1 p 3).toInt).toNat ∧ ((N.2.1 p 3).toInt).toNat ≤ 11 ∨ (p + 8) = p + 8 by omega)
        refine to_i (pc := 120) rw_42_120 rfl (to_an (pc := 122) rw_42_122 rfl (s_gR (pc := 123) rw_42_123 hG151 (by rcases hp with rfl | rfl <;> rfl) (v := (p + 5)) (by rcases hp with rfl | rfl <;> rfl) (to_in (pc := 126) rw_42_126 rfl (s_ialk (pc := 127) rw_42_127 hG151 (by rcases hp with rfl | rfl <;> rfl) (n := 8) (by rcases hp with rfl | rfl <;> rfl) (by rcases hp with rfl | rfl <;> rfl) (A := f.toInt) rfl (by omega) (by omega) (v := v145) (W_l W149 w_146) (b_ceq (pc := 128) rw_42_128 (A := x5.toInt) (B := v145.toInt) rfl rfl (fun h155 => ?_) (fun h155 => ?_))))))
        · refine to_c (pc := 148) rw_42_148 (x := (1 : Int32)) rfl rfl (to_go (pc := 149) rw_42_149 (s_r1 (pc := 153) rw_42_153 (A := 1) rfl (by decide) ?_))
          have k_156 : (1 : Int32).toInt = 1 := rfl
          have j_157 := (CS_f (fun a i z => W_l W149 rfl) g5)
          have j_158 := (PLc_f (fun a i z => W_l W149 rfl) (L_n W149 (by omega) rfl) g6)
          have j_159 := (CW_f (fun k hk9 => L_n W149 (by omega) rfl) g7)
          have c_160 : M150.2.1 1 9 = (N.2.1 1 9) := (W_l W149 rfl)
          have t_161 : (M150.2.1 1 9).toInt = (N.2.1 1 9).toInt := congrArg Int32.toInt c_160
          have z_162 : M150.2.2.1 (p + 8) sg.2.2.1.toNat = y3 := by rw [show sg.2.2.1.toNat = ((N.2.1 p 3).toInt).toNat by omega]; exact (L_e W149)
          exact h (1 : Int32) M150 hG151 F152 (by decide) (by decide) j_157 j_158 j_159 (fun z => absurd z (by decide)) (fun _ => by rw [show (M150.2.1 1 9).toInt = (N.2.1 1 9).toInt by omega, z_162, ← g8]; first | exact Or.inl (x_rc_y (by omega) (by omega) (by omega)) | exact Or.inr ⟨x_rc_n2 (by omega) (by omega), by omega⟩)
        · refine to_an (pc := 131) rw_42_131 rfl ?_
          have c_163 : M150.2.1 1 7 = (N.2.1 1 7) := (W_l W149 rfl)
          have t_164 : (M150.2.1 1 7).toInt = (N.2.1 1 7).toInt := congrArg Int32.toInt c_163
          have c_165 : M150.2.1 1 8 = (N.2.1 1 8) := (W_l W149 rfl)
          have t_166 : (M150.2.1 1 8).toInt = (N.2.1 1 8).toInt := congrArg Int32.toInt c_165
          have c_167 : M150.2.1 1 9 = (N.2.1 1 9) := (W_l W149 rfl)
          have t_168 : (M150.2.1 1 9).toInt = (N.2.1 1 9).toInt := congrArg Int32.toInt c_167
          have j_169 := (CS_f (fun a i z => W_l W149 rfl) g5)
          have c_170 := CS_u j_169 (a := (N.2.1 1 9).toInt) (by omega)
          unfold x_C at c_170
          refine tt_gI (pc := 132) rw_42_132 (g_o hG151 rfl) (v := (N.2.1 1 7)) c_163 (to_c (pc := 135) rw_42_135 (x := (59 : Int32)) rfl rfl (b_cne (pc := 137) rw_42_137 (A := (N.2.1 1 7).toInt) (B := 59) rfl rfl (fun h171 => ?_) (fun h171 => ?_)))
          · refine to_c (pc := 148) rw_42_148 (x := (1 : Int32)) rfl rfl (to_go (pc := 149) rw_42_149 (s_r1 (pc := 153) rw_42_153 (A := 1) rfl (by decide) ?_))
            have k_172 : (1 : Int32).toInt = 1 := rfl
            have j_173 := (PLc_f (fun a i z => W_l W149 rfl) (L_n W149 (by omega) rfl) g6)
            have j_174 := (CW_f (fun k hk9 => L_n W149 (by omega) rfl) g7)
            have z_175 : M150.2.2.1 (p + 8) sg.2.2.1.toNat = y3 := by rw [show sg.2.2.1.toNat = ((N.2.1 p 3).toInt).toNat by omega]; exact (L_e W149)
            exact h (1 : Int32) M150 hG151 F152 (by decide) (by decide) j_169 j_173 j_174 (fun z => absurd z (by decide)) (fun _ => by rw [show (M150.2.1 1 9).toInt = (N.2.1 1 9).toInt by omega, z_175, ← g8]; first | exact Or.inl (x_rc_y (by omega) (by omega) (by omega)) | exact Or.inr ⟨x_rc_n2 (by omega) (by omega), by omega⟩)
          · refine to_an (pc := 140) rw_42_140 rfl (to_c (pc := 141) rw_42_141 (x := (5 : Int32)) rfl rfl (s_v (pc := 142) rw_42_142 (dp0 hd (by decide)) (ls0 := [.ref 1, .int (5 : Int32)]) rfl (Nat.le_of_ble_eq_true rfl) (Nat.le_of_ble_eq_true rfl) rfl (to_rc rfl rfl rfl (g_o hG151 rfl)) rfl (to_an (pc := 0) rw_84_0 rfl (to_in (pc := 1) rw_84_1 rfl (s_pI (pc := 2) rw_84_2 hG151 rfl (fun M177 W176 => ?_))))))
            have hG178 := g_wf hG151 W176 rfl rfl (by decide)
            have F179 := FR.w F152 W176 (show 1 = 1 ∧ 6 ≤ 10 ∧ 10 ≤ 11 ∨ 1 = p + 8 by omega)
            refine to_an (pc := 5) rw_84_5 rfl (to_an (pc := 6) rw_84_6 rfl ?_)
            have c_180 : M177.2.1 1 9 = (N.2.1 1 9) := (W_n W176 (by decide) c_167)
            refine tt_gI (pc := 7) rw_84_7 (g_o hG178 rfl) (v := (N.2.1 1 9)) c_180 (s_pI (pc := 10) rw_84_10 hG178 rfl (fun M182 W181 => ?_))
            have hG183 := g_wf hG178 W181 rfl rfl (by decide)
            have F184 := FR.w F179 W181 (show 1 = 1 ∧ 6 ≤ 11 ∧ 11 ≤ 11 ∨ 1 = p + 8 by omega)
            refine to_c (pc := 13) rw_84_13 (x := (0 : Int32)) rfl rfl (s_r1 (pc := 14) rw_84_14 (A := 0) rfl (by decide) (b_ieq_t (pc := 145) rw_42_145 (A := 0) rfl (by decide) (to_c (pc := 152) rw_42_152 (x := (0 : Int32)) rfl rfl (s_r1 (pc := 153) rw_42_153 (A := 0) rfl (by decide) ?_))))
            have k_185 : (0 : Int32).toInt = 0 := rfl
            have j_186 := (CS_f (fun a i z => W_n W181 (tg_32 a i z) rfl) (CS_f (fun a i z => W_n W176 (tg_33 a i z) rfl) j_169))
            have j_187 := (PLc_f (fun a i z => W_n W181 (by /-r1,11-/ omega) rfl) (W_j W181 rfl) (PLc_f (fun a i z => W_n W176 (by /-r1,10-/ omega) rfl) (W_j W176 rfl) (PLc_f (fun a i z => W_l W149 rfl) (L_n W149 (by omega) rfl) g6)))
            have j_188 := (CW_f (fun k hk9 => W_j W181 rfl) (CW_f (fun k hk9 => W_j W176 rfl) (CW_f (fun k hk9 => L_n W149 (by omega) rfl) g7)))
            exact h (0 : Int32) M182 hG183 F184 (by decide) (by decide) j_186 j_187 j_188 (fun _ => g8.symm.trans (by first | exact x_rc_n1 (by omega) (by omega) | exact x_rc_n2 (by omega) (by omega) | exact (if g9 : x_kind t nn (N.2.1 1 9).toInt = 3 then x_rc_n1 g9 (by omega) else x_rc_n2 g9 (by omega)))) (fun z => absurd z (by decide))
      · refine to_an (pc := 21) rw_42_21 rfl ?_
        have c_189 := CS_u g5 (a := (N.2.1 1 9).toInt) (by omega)
        unfold x_C at c_189
        refine tt_gI (pc := 22) rw_42_22 (g_o hG rfl) (v := (N.2.1 1 7)) rfl (to_c (pc := 25) rw_42_25 (x := (2 : Int32)) rfl rfl (b_cne (pc := 26) rw_42_26 (A := (N.2.1 1 7).toInt) (B := 2) rfl rfl (fun h190 => ?_) (fun h190 => ?_)))
        · refine to_an (pc := 110) rw_42_110 rfl (s_gR (pc := 111) rw_42_111 hG (by rcases hp with rfl | rfl <;> rfl) (v := (p + 8)) (by rcases hp with rfl | rfl <;> rfl) (to_an (pc := 114) rw_42_114 rfl (tt_gI (pc := 115) rw_42_115 (g_o hG (by rcases hp with rfl | rfl <;> rfl)) (v := (N.2.1 p 3)) rfl (to_ln (pc := 118) rw_42_118 rfl rfl rfl (s_las (pc := 119) rw_42_119 hG (by rcases hp with rfl | rfl <;> rfl) (n := 12) (by rcases hp with rfl | rfl <;> rfl) (A := (N.2.1 p 3).toInt) rfl (by omega) (by omega) (fun M192 W191 => ?_))))))
          have hG193 := g_wl hG W191
          have F194 := FR.wl F0 W191 (show (p + 8) = 1 ∧ 6 ≤ ((N.2.1 p 3).toInt).toNat ∧ ((N.2.1 p 3).toInt).toNat ≤ 11 ∨ (p + 8) = p + 8 by omega)
          refine to_i (pc := 120) rw_42_120 rfl (to_an (pc := 122) rw_42_122 rfl (s_gR (pc := 123) rw_42_123 hG193 (by rcases hp with rfl | rfl <;> rfl) (v := (p + 5)) (by rcases hp with rfl | rfl <;> rfl) (to_in (pc := 126) rw_42_126 rfl (s_ialk (pc := 127) rw_42_127 hG193 (by rcases hp with rfl | rfl <;> rfl) (n := 8) (by rcases hp with rfl | rfl <;> rfl) (by rcases hp with rfl | rfl <;> rfl) (A := f.toInt) rfl (by omega) (by omega) (v := v145) (W_l W191 w_146) (b_ceq (pc := 128) rw_42_128 (A := x5.toInt) (B := v145.toInt) rfl rfl (fun h197 => ?_) (fun h197 => ?_))))))
          · refine to_c (pc := 148) rw_42_148 (x := (1 : Int32)) rfl rfl (to_go (pc := 149) rw_42_149 (s_r1 (pc := 153) rw_42_153 (A := 1) rfl (by decide) ?_))
            have k_198 : (1 : Int32).toInt = 1 := rfl
            have j_199 := (CS_f (fun a i z => W_l W191 rfl) g5)
            have j_200 := (PLc_f (fun a i z => W_l W191 rfl) (L_n W191 (by omega) rfl) g6)
            have j_201 := (CW_f (fun k hk9 => L_n W191 (by omega) rfl) g7)
            have c_202 : M192.2.1 1 9 = (N.2.1 1 9) := (W_l W191 rfl)
            have t_203 : (M192.2.1 1 9).toInt = (N.2.1 1 9).toInt := congrArg Int32.toInt c_202
            have z_204 : M192.2.2.1 (p + 8) sg.2.2.1.toNat = y3 := by rw [show sg.2.2.1.toNat = ((N.2.1 p 3).toInt).toNat by omega]; exact (L_e W191)
            exact h (1 : Int32) M192 hG193 F194 (by decide) (by decide) j_199 j_200 j_201 (fun z => absurd z (by decide)) (fun _ => by rw [show (M192.2.1 1 9).toInt = (N.2.1 1 9).toInt by omega, z_204, ← g8]; first | exact Or.inl (x_rc_y (by omega) (by omega) (by omega)) | exact Or.inr ⟨x_rc_n2 (by omega) (by omega), by omega⟩)
          · refine to_an (pc := 131) rw_42_131 rfl ?_
            have c_205 : M192.2.1 1 7 = (N.2.1 1 7) := (W_l W191 rfl)
            have t_206 : (M192.2.1 1 7).toInt = (N.2.1 1 7).toInt := congrArg Int32.toInt c_205
            have c_207 : M192.2.1 1 8 = (N.2.1 1 8) := (W_l W191 rfl)
            have t_208 : (M192.2.1 1 8).toInt = (N.2.1 1 8).toInt := congrArg Int32.toInt c_207
            have c_209 : M192.2.1 1 9 = (N.2.1 1 9) := (W_l W191 rfl)
            have t_210 : (M192.2.1 1 9).toInt = (N.2.1 1 9).toInt := congrArg Int32.toInt c_209
            have j_211 := (CS_f (fun a i z => W_l W191 rfl) g5)
            have c_212 := CS_u j_211 (a := (N.2.1 1 9).toInt) (by omega)
            unfold x_C at c_212
            refine tt_gI (pc := 132) rw_42_132 (g_o hG193 rfl) (v := (N.2.1 1 7)) c_205 (to_c (pc := 135) rw_42_135 (x := (59 : Int32)) rfl rfl (b_cne (pc := 137) rw_42_137 (A := (N.2.1 1 7).toInt) (B := 59) rfl rfl (fun h213 => ?_) (fun h213 => ?_)))
            · refine to_c (pc := 148) rw_42_148 (x := (1 : Int32)) rfl rfl (to_go (pc := 149) rw_42_149 (s_r1 (pc := 153) rw_42_153 (A := 1) rfl (by decide) ?_))
              have k_214 : (1 : Int32).toInt = 1 := rfl
              have j_215 := (PLc_f (fun a i z => W_l W191 rfl) (L_n W191 (by omega) rfl) g6)
              have j_216 := (CW_f (fun k hk9 => L_n W191 (by omega) rfl) g7)
              have z_217 : M192.2.2.1 (p + 8) sg.2.2.1.toNat = y3 := by rw [show sg.2.2.1.toNat = ((N.2.1 p 3).toInt).toNat by omega]; exact (L_e W191)
              exact h (1 : Int32) M192 hG193 F194 (by decide) (by decide) j_211 j_215 j_216 (fun z => absurd z (by decide)) (fun _ => by rw [show (M192.2.1 1 9).toInt = (N.2.1 1 9).toInt by omega, z_217, ← g8]; first | exact Or.inl (x_rc_y (by omega) (by omega) (by omega)) | exact Or.inr ⟨x_rc_n2 (by omega) (by omega), by omega⟩)
            · refine to_an (pc := 140) rw_42_140 rfl (to_c (pc := 141) rw_42_141 (x := (5 : Int32)) rfl rfl (s_v (pc := 142) rw_42_142 (dp0 hd (by decide)) (ls0 := [.ref 1, .int (5 : Int32)]) rfl (Nat.le_of_ble_eq_true rfl) (Nat.le_of_ble_eq_true rfl) rfl (to_rc rfl rfl rfl (g_o hG193 rfl)) rfl (to_an (pc := 0) rw_84_0 rfl (to_in (pc := 1) rw_84_1 rfl (s_pI (pc := 2) rw_84_2 hG193 rfl (fun M219 W218 => ?_))))))
              have hG220 := g_wf hG193 W218 rfl rfl (by decide)
              have F221 := FR.w F194 W218 (show 1 = 1 ∧ 6 ≤ 10 ∧ 10 ≤ 11 ∨ 1 = p + 8 by omega)
              refine to_an (pc := 5) rw_84_5 rfl (to_an (pc := 6) rw_84_6 rfl ?_)
              have c_222 : M219.2.1 1 9 = (N.2.1 1 9) := (W_n W218 (by decide) c_209)
              refine tt_gI (pc := 7) rw_84_7 (g_o hG220 rfl) (v := (N.2.1 1 9)) c_222 (s_pI (pc := 10) rw_84_10 hG220 rfl (fun M224 W223 => ?_))
              have hG225 := g_wf hG220 W223 rfl rfl (by decide)
              have F226 := FR.w F221 W223 (show 1 = 1 ∧ 6 ≤ 11 ∧ 11 ≤ 11 ∨ 1 = p + 8 by omega)
              refine to_c (pc := 13) rw_84_13 (x := (0 : Int32)) rfl rfl (s_r1 (pc := 14) rw_84_14 (A := 0) rfl (by decide) (b_ieq_t (pc := 145) rw_42_145 (A := 0) rfl (by decide) (to_c (pc := 152) rw_42_152 (x := (0 : Int32)) rfl rfl (s_r1 (pc := 153) rw_42_153 (A := 0) rfl (by decide) ?_))))
              have k_227 : (0 : Int32).toInt = 0 := rfl
              have j_228 := (CS_f (fun a i z => W_n W223 (tg_32 a i z) rfl) (CS_f (fun a i z => W_n W218 (tg_33 a i z) rfl) j_211))
              have j_229 := (PLc_f (fun a i z => W_n W223 (by /-r1,11-/ omega) rfl) (W_j W223 rfl) (PLc_f (fun a i z => W_n W218 (by /-r1,10-/ omega) rfl) (W_j W218 rfl) (PLc_f (fun a i z => W_l W191 rfl) (L_n W191 (by omega) rfl) g6)))
              have j_230 := (CW_f (fun k hk9 => W_j W223 rfl) (CW_f (fun k hk9 => W_j W218 rfl) (CW_f (fun k hk9 => L_n W191 (by omega) rfl) g7)))
              exact h (0 : Int32) M224 hG225 F226 (by decide) (by decide) j_228 j_229 j_230 (fun _ => g8.symm.trans (by first | exact x_rc_n1 (by omega) (by omega) | exact x_rc_n2 (by omega) (by omega) | exact (if g9 : x_kind t nn (N.2.1 1 9).toInt = 3 then x_rc_n1 g9 (by omega) else x_rc_n2 g9 (by omega)))) (fun z => absurd z (by decide))
        · refine to_i (pc := 29) rw_42_29 rfl (to_an (pc := 31) rw_42_31 rfl (s_gR (pc := 32) rw_42_32 hG (by rcases hp with rfl | rfl <;> rfl) (v := (p + 5)) (by rcases hp with rfl | rfl <;> rfl) (to_in (pc := 35) rw_42_35 rfl (s_ialk (pc := 36) rw_42_36 hG (by rcases hp with rfl | rfl <;> rfl) (n := 8) (by rcases hp with rfl | rfl <;> rfl) (by rcases hp with rfl | rfl <;> rfl) (A := f.toInt) rfl (by omega) (by omega) (v := v145) w_146 (b_cge (pc := 37) rw_42_37 (A := x5.toInt) (B := v145.toInt) rfl rfl (fun h233 => ?_) (fun h233 => ?_))))))
          · refine to_c (pc := 50) rw_42_50 (x := (-1 : Int32)) rfl rfl (to_is (pc := 51) rw_42_51 (ls2 := [.ref p, .ref 1, .int f, .long y3, .null, .int x5, .int (-1 : Int32), u7, u8]) rfl rfl (to_an (pc := 53) rw_42_53 rfl (to_c (pc := 54) rw_42_54 (x := (0 : Int32)) rfl rfl (to_i (pc := 55) rw_42_55 rfl (s_v (pc := 57) rw_42_57 (dp0 hd (by decide)) (ls0 := [.ref 1, .int (0 : Int32), .int (-1 : Int32)]) rfl (Nat.le_of_ble_eq_true rfl) (Nat.le_of_ble_eq_true rfl) rfl (to_rc rfl rfl rfl (g_o hG rfl)) rfl ?_)))))
            have k_234 : (0 : Int32).toInt = 0 := rfl
            have k_235 : (-1 : Int32).toInt = -1 := rfl
            refine E_88 hX (dp1 hd (by decide)) hG g5 (by omega) (l := (0 : Int32)) (m := (-1 : Int32)) (t := t) (nn := nn) (a := (N.2.1 1 9).toInt) (fun r236 M243 hG238 F237 p_239 p_240 p_241 p_242 => ?_)
            have F244 := FR.c F0 F237 (fun a i z => show a = 1 ∧ 6 ≤ i ∧ i ≤ 11 ∨ a = p + 8 by have z : a = 1 ∧ (i = 10 ∨ i = 11) := z; omega)
            rcases (show r236.toInt = 0 ∨ r236.toInt = 1 by omega) with h245 | h245
            · skip
              have p_246 := p_242 (by omega)
              clear p_241 p_242
              have z_247 := x_val_b (t := t) (nn := nn) (a := (N.2.1 1 9).toInt)
              refine b_ine_f (pc := 60) rw_42_60 (A := r236.toInt) rfl (by omega) (to_c (pc := 63) rw_42_63 (x := (0 : Int32)) rfl rfl (s_r1 (pc := 64) rw_42_64 (A := 0) rfl (by decide) ?_))
              have j_248 := (CS_f (tg_34 F237) g5)
              have j_249 := (PLc_f (fun a i z => F_n F237 (show ¬ (a = 1 ∧ (i = 10 ∨ i = 11)) by omega) rfl) (F_nl F237 (show ¬ (p = 1 ∧ (4 = 10 ∨ 4 = 11)) by omega) rfl) g6)
              have j_250 := (CW_f (fun k hk9 => F_nl F237 (show ¬ ((p + 8) = 1 ∧ (k = 10 ∨ k = 11)) by omega) rfl) g7)
              exact h (0 : Int32) M243 hG238 F244 (by decide) (by decide) j_248 j_249 j_250 (fun _ => g8.symm.trans (by first | exact x_rc_n1 (by omega) (by omega) | exact x_rc_n2 (by omega) (by omega) | exact (if g9 : x_kind t nn (N.2.1 1 9).toInt = 3 then x_rc_n1 g9 (by omega) else x_rc_n2 g9 (by omega)))) (fun z => absurd z (by decide))
            · skip
              have p_251 := p_241 (by omega)
              clear p_241 p_242
              have c_252 : M243.2.1 1 8 = (N.2.1 1 8) := (F_n F237 (show ¬ (1 = 1 ∧ (8 = 10 ∨ 8 = 11)) by decide) rfl)
              have z_253 := x_val_b (t := t) (nn := nn) (a := (N.2.1 1 9).toInt) (by omega)
              refine b_ine_t (pc := 60) rw_42_60 (A := r236.toInt) rfl (by omega) (to_cl (pc := 65) rw_42_65 rfl (x := (1 : Int64)) rfl (to_an (pc := 66) rw_42_66 rfl (s_gR (pc := 67) rw_42_67 hG238 (by rcases hp with rfl | rfl <;> rfl) (v := (p + 3)) (by rcases hp with rfl | rfl <;> rfl) (to_in (pc := 70) rw_42_70 rfl (s_ial (pc := 71) rw_42_71 hG238 (by rcases hp with rfl | rfl <;> rfl) (n := 8) (by rcases hp with rfl | rfl <;> rfl) (by rcases hp with rfl | rfl <;> rfl) (A := f.toInt) rfl (by omega) (by omega) (lo := 0) (hi := 59) (by rcases hp with rfl | rfl <;> rfl) (by rcases hp with rfl | rfl <;> rfl) (fun v254 w_255 _ _ => ?_))))))
              have j_256 := (PLc_f (fun a i z => F_n F237 (show ¬ (a = 1 ∧ (i = 10 ∨ i = 11)) by omega) rfl) (F_nl F237 (show ¬ (p = 1 ∧ (4 = 10 ∨ 4 = 11)) by omega) rfl) g6)
              have z_257 := PLc_r j_256 3 (by decide) (by decide) (k := f.toInt) (by omega) (by omega) w_255
              refine to_an (pc := 72) rw_42_72 rfl (tt_gI (pc := 73) rw_42_73 (g_o hG238 rfl) (v := (N.2.1 1 8)) c_252 (s_add (pc := 76) rw_42_76 (A := v254.toInt) (B := (N.2.1 1 8).toInt) rfl rfl (by omega) (fun v258 e259 => to_2s (pc := 77) rw_42_77 (v := ((1 : Int64) <<< (v258.toInt64 &&& 63))) rfl (to_ls (pc := 78) rw_42_78 (ls2 := [.ref p, .ref 1, .int f, .long y3, .null, .int x5, .int (-1 : Int32), .long ((1 : Int64) <<< (v258.toInt64 &&& 63)), .null]) rfl rfl (to_ln (pc := 80) rw_42_80 rfl rfl rfl (to_l (pc := 81) rw_42_81 rfl rfl rfl (to_2l (pc := 83) rw_42_83 (v := (y3 &&& ((1 : Int64) <<< (v258.toInt64 &&& 63)))) rfl (to_cl (pc := 84) rw_42_84 rfl (x := (0 : Int64)) rfl (s_lcmpE (pc := 85) rw_42_85 (fun v260 e261 => ?_))))))))))
              have b_262 := x_eq_b (x := (y3 &&& ((1 : Int64) <<< (v258.toInt64 &&& 63)))) (y := (0 : Int64))
              have z_263 := x_hit_e (v := v258) (bits := y3) (h := (x_row sg 3 f.toInt + x_val t nn (N.2.1 1 9).toInt))
              refine b_ieq (pc := 86) rw_42_86 (A := v260.toInt) rfl (fun h264 => ?_) (fun h264 => ?_)
              · refine to_ln (pc := 95) rw_42_95 rfl rfl rfl (to_l (pc := 96) rw_42_96 rfl rfl rfl (to_2l (pc := 98) rw_42_98 (v := (y3 ||| ((1 : Int64) <<< (v258.toInt64 &&& 63)))) rfl (to_lsn (pc := 99) rw_42_99 (ls2 := [.ref p, .ref 1, .int f, .long (y3 ||| ((1 : Int64) <<< (v258.toInt64 &&& 63))), .null, .int x5, .int (-1 : Int32), .long ((1 : Int64) <<< (v258.toInt64 &&& 63)), .null]) rfl rfl (s_inc (pc := 100) rw_42_100 (ls2 := fun v => [.ref p, .ref 1, .int f, .long (y3 ||| ((1 : Int64) <<< (v258.toInt64 &&& 63))), .null, .int v, .int (-1 : Int32), .long ((1 : Int64) <<< (v258.toInt64 &&& 63)), .null]) rfl rfl (fun _ => rfl) (A := x5.toInt) (B := 1) rfl rfl (by omega) (fun v265 e266 => to_an (pc := 103) rw_42_103 rfl (s_v (pc := 104) rw_42_104 (dp0 hd (by decide)) (ls0 := [.ref 1]) rfl (Nat.le_of_ble_eq_true rfl) (Nat.le_of_ble_eq_true rfl) rfl (to_rc rfl rfl rfl (g_o hG238 rfl)) rfl ?_))))))
                have j_267 := (CS_f (tg_34 F237) g5)
                have c_268 : M243.2.1 1 9 = (N.2.1 1 9) := (F_n F237 (show ¬ (1 = 1 ∧ (9 = 10 ∨ 9 = 11)) by decide) rfl)
                have t_269 : (M243.2.1 1 9).toInt = (N.2.1 1 9).toInt := congrArg Int32.toInt c_268
                refine E_83 hX (dp1 hd (by decide)) hG238 j_267 (by omega) (t := t) (nn := nn) (a := (N.2.1 1 9).toInt) (fun M274 hG271 F270 p_272 p_273 => ?_)
                have F275 := FR.c F244 F270 (fun a i z => show a = 1 ∧ 6 ≤ i ∧ i ≤ 11 ∨ a = p + 8 by have z : a = 1 ∧ 6 ≤ i ∧ i ≤ 9 := z; omega)
                refine to_go (pc := 107) rw_42_107 ?_
                have c_276 : M274.2.1 p 3 = (N.2.1 p 3) := (F_n F270 (show ¬ (p = 1 ∧ 6 ≤ 3 ∧ 3 ≤ 9) by omega) (F_n F237 (show ¬ (p = 1 ∧ (3 = 10 ∨ 3 = 11)) by omega) rfl))
                have t_277 : (M274.2.1 p 3).toInt = (N.2.1 p 3).toInt := congrArg Int32.toInt c_276
                have j_278 := (PLc_f (fun a i z => F_n F270 (show ¬ (a = 1 ∧ 6 ≤ i ∧ i ≤ 9) by omega) rfl) (F_nl F270 (show ¬ (p = 1 ∧ 6 ≤ 4 ∧ 4 ≤ 9) by omega) rfl) j_256)
                have j_279 := (CW_f (fun k hk9 => F_nl F270 (show ¬ ((p + 8) = 1 ∧ 6 ≤ k ∧ k ≤ 9) by omega) rfl) (CW_f (fun k hk9 => F_nl F237 (show ¬ ((p + 8) = 1 ∧ (k = 10 ∨ k = 11)) by omega) rfl) g7))
                exact ih M274 (y3 ||| ((1 : Int64) <<< (v258.toInt64 &&& 63))) v265 (.int (-1 : Int32)) (.long ((1 : Int64) <<< (v258.toInt64 &&& 63))) (.null) hG271 F275 (by omega) (by omega) (by omega) (by omega) p_272 j_278 j_279 (x_rc_s (fu := (6 - x5.toInt).toNat) (told := x5.toInt) (bits := y3) (b := (N.2.1 1 9).toInt) (by omega) (by omega) (by omega) (by omega) (by omega) (congrArg (fun z => y3 ||| z) (x_bit_e (v := v258) (by omega))) g8) (by omega)
              · refine to_an (pc := 89) rw_42_89 rfl (to_c (pc := 90) rw_42_90 (x := (3 : Int32)) rfl rfl (s_v (pc := 91) rw_42_91 (dp0 hd (by decide)) (ls0 := [.ref 1, .int (3 : Int32)]) rfl (Nat.le_of_ble_eq_true rfl) (Nat.le_of_ble_eq_true rfl) rfl (to_rc rfl rfl rfl (g_o hG238 rfl)) rfl (to_an (pc := 0) rw_84_0 rfl (to_in (pc := 1) rw_84_1 rfl (s_pI (pc := 2) rw_84_2 hG238 rfl (fun M281 W280 => ?_))))))
                have hG282 := g_wf hG238 W280 rfl rfl (by decide)
                have F283 := FR.w F244 W280 (show 1 = 1 ∧ 6 ≤ 10 ∧ 10 ≤ 11 ∨ 1 = p + 8 by omega)
                refine to_an (pc := 5) rw_84_5 rfl (to_an (pc := 6) rw_84_6 rfl ?_)
                have c_284 : M281.2.1 1 9 = (N.2.1 1 9) := (W_n W280 (by decide) (F_n F237 (show ¬ (1 = 1 ∧ (9 = 10 ∨ 9 = 11)) by decide) rfl))
                refine tt_gI (pc := 7) rw_84_7 (g_o hG282 rfl) (v := (N.2.1 1 9)) c_284 (s_pI (pc := 10) rw_84_10 hG282 rfl (fun M286 W285 => ?_))
                have hG287 := g_wf hG282 W285 rfl rfl (by decide)
                have F288 := FR.w F283 W285 (show 1 = 1 ∧ 6 ≤ 11 ∧ 11 ≤ 11 ∨ 1 = p + 8 by omega)
                refine to_c (pc := 13) rw_84_13 (x := (0 : Int32)) rfl rfl (s_r1 (pc := 14) rw_84_14 (A := 0) rfl (by decide) (s_r1 (pc := 94) rw_42_94 (A := 0) rfl (by decide) ?_))
                have j_289 := (CS_f (fun a i z => W_n W285 (tg_32 a i z) rfl) (CS_f (fun a i z => W_n W280 (tg_33 a i z) rfl) (CS_f (tg_34 F237) g5)))
                have j_290 := (PLc_f (fun a i z => W_n W285 (by /-r1,11-/ omega) rfl) (W_j W285 rfl) (PLc_f (fun a i z => W_n W280 (by /-r1,10-/ omega) rfl) (W_j W280 rfl) j_256))
                have j_291 := (CW_f (fun k hk9 => W_j W285 rfl) (CW_f (fun k hk9 => W_j W280 rfl) (CW_f (fun k hk9 => F_nl F237 (show ¬ ((p + 8) = 1 ∧ (k = 10 ∨ k = 11)) by omega) rfl) g7)))
                exact h (0 : Int32) M286 hG287 F288 (by decide) (by decide) j_289 j_290 j_291 (fun _ => g8.symm.trans (by first | exact x_rc_n1 (by omega) (by omega) | exact x_rc_n2 (by omega) (by omega) | exact (if g9 : x_kind t nn (N.2.1 1 9).toInt = 3 then x_rc_n1 g9 (by omega) else x_rc_n2 g9 (by omega)))) (fun z => absurd z (by decide))
          · refine to_an (pc := 40) rw_42_40 rfl (to_in (pc := 41) rw_42_41 rfl (s_v (pc := 42) rw_42_42 (dp0 hd (by decide)) (ls0 := [.ref p, .int f]) rfl (Nat.le_of_ble_eq_true rfl) (Nat.le_of_ble_eq_true rfl) rfl (to_rc rfl rfl rfl (g_o hG (by rcases hp with rfl | rfl <;> rfl))) rfl (to_an (pc := 0) rw_47_0 rfl (s_gR (pc := 1) rw_47_1 hG (by rcases hp with rfl | rfl <;> rfl) (v := (p + 4)) (by rcases hp with rfl | rfl <;> rfl) (to_in (pc := 4) rw_47_4 rfl (s_ial (pc := 5) rw_47_5 hG (by rcases hp with rfl | rfl <;> rfl) (n := 8) (by rcases hp with rfl | rfl <;> rfl) (by rcases hp with rfl | rfl <;> rfl) (A := f.toInt) rfl (by omega) (by omega) (lo := 0) (hi := 63) (by rcases hp with rfl | rfl <;> rfl) (by rcases hp with rfl | rfl <;> rfl) (fun v292 w_293 _ _ => ?_)))))))
            have z_294 := PLc_r g6 4 (by decide) (by decide) (k := f.toInt) (by omega) (by omega) w_293
            refine to_an (pc := 6) rw_47_6 rfl (s_gR (pc := 7) rw_47_7 hG (by rcases hp with rfl | rfl <;> rfl) (v := (p + 3)) (by rcases hp with rfl | rfl <;> rfl) (to_in (pc := 10) rw_47_10 rfl (s_ial (pc := 11) rw_47_11 hG (by rcases hp with rfl | rfl <;> rfl) (n := 8) (by rcases hp with rfl | rfl <;> rfl) (by rcases hp with rfl | rfl <;> rfl) (A := f.toInt) rfl (by omega) (by omega) (lo := 0) (hi := 59) (by rcases hp with rfl | rfl <;> rfl) (by rcases hp with rfl | rfl <;> rfl) (fun v295 w_296 _ _ => ?_))))
            have z_297 := PLc_r g6 3 (by decide) (by decide) (k := f.toInt) (by omega) (by omega) w_296
            refine s_sub (pc := 12) rw_47_12 (A := v292.toInt) (B := v295.toInt) rfl rfl (by omega) (fun v298 e299 => to_c (pc := 13) rw_47_13 (x := (1 : Int32)) rfl rfl (s_add (pc := 14) rw_47_14 (A := v298.toInt) (B := 1) rfl rfl (by omega) (fun v300 e301 => to_r0 (pc := 15) rw_47_15 (to_c (pc := 45) rw_42_45 (x := (1 : Int32)) rfl rfl (s_sub (pc := 46) rw_42_46 (A := v300.toInt) (B := 1) rfl rfl (by omega) (fun v302 e303 => to_go (pc := 47) rw_42_47 (to_is (pc := 51) rw_42_51 (ls2 := [.ref p, .ref 1, .int f, .long y3, .null, .int x5, .int v302, u7, u8]) rfl rfl (to_an (pc := 53) rw_42_53 rfl (to_c (pc := 54) rw_42_54 (x := (0 : Int32)) rfl rfl (to_i (pc := 55) rw_42_55 rfl (s_v (pc := 57) rw_42_57 (dp0 hd (by decide)) (ls0 := [.ref 1, .int (0 : Int32), .int v302]) rfl (Nat.le_of_ble_eq_true rfl) (Nat.le_of_ble_eq_true rfl) rfl (to_rc rfl rfl rfl (g_o hG rfl)) rfl ?_)))))))))))
            have k_304 : (0 : Int32).toInt = 0 := rfl
            refine E_88 hX (dp1 hd (by decide)) hG g5 (by omega) (l := (0 : Int32)) (m := v302) (t := t) (nn := nn) (a := (N.2.1 1 9).toInt) (fun r305 M312 hG307 F306 p_308 p_309 p_310 p_311 => ?_)
            have F313 := FR.c F0 F306 (fun a i z => show a = 1 ∧ 6 ≤ i ∧ i ≤ 11 ∨ a = p + 8 by have z : a = 1 ∧ (i = 10 ∨ i = 11) := z; omega)
            rcases (show r305.toInt = 0 ∨ r305.toInt = 1 by omega) with h314 | h314
            · skip
              have p_315 := p_311 (by omega)
              clear p_310 p_311
              have z_316 := x_val_b (t := t) (nn := nn) (a := (N.2.1 1 9).toInt)
              refine b_ine_f (pc := 60) rw_42_60 (A := r305.toInt) rfl (by omega) (to_c (pc := 63) rw_42_63 (x := (0 : Int32)) rfl rfl (s_r1 (pc := 64) rw_42_64 (A := 0) rfl (by decide) ?_))
              have j_317 := (CS_f (tg_34 F306) g5)
              have j_318 := (PLc_f (fun a i z => F_n F306 (show ¬ (a = 1 ∧ (i = 10 ∨ i = 11)) by omega) rfl) (F_nl F306 (show ¬ (p = 1 ∧ (4 = 10 ∨ 4 = 11)) by omega) rfl) g6)
              have j_319 := (CW_f (fun k hk9 => F_nl F306 (show ¬ ((p + 8) = 1 ∧ (k = 10 ∨ k = 11)) by omega) rfl) g7)
              exact h (0 : Int32) M312 hG307 F313 (by decide) (by decide) j_317 j_318 j_319 (fun _ => g8.symm.trans (by first | exact x_rc_n1 (by omega) (by omega) | exact x_rc_n2 (by omega) (by omega) | exact (if g9 : x_kind t nn (N.2.1 1 9).toInt = 3 then x_rc_n1 g9 (by omega) else x_rc_n2 g9 (by omega)))) (fun z => absurd z (by decide))
            · skip
              have p_320 := p_310 (by omega)
              clear p_310 p_311
              have c_321 : M312.2.1 1 8 = (N.2.1 1 8) := (F_n F306 (show ¬ (1 = 1 ∧ (8 = 10 ∨ 8 = 11)) by decide) rfl)
              have z_322 := x_val_b (t := t) (nn := nn) (a := (N.2.1 1 9).toInt) (by omega)
              refine b_ine_t (pc := 60) rw_42_60 (A := r305.toInt) rfl (by omega) (to_cl (pc := 65) rw_42_65 rfl (x := (1 : Int64)) rfl (to_an (pc := 66) rw_42_66 rfl (s_gR (pc := 67) rw_42_67 hG307 (by rcases hp with rfl | rfl <;> rfl) (v := (p + 3)) (by rcases hp with rfl | rfl <;> rfl) (to_in (pc := 70) rw_42_70 rfl (s_ialk (pc := 71) rw_42_71 hG307 (by rcases hp with rfl | rfl <;> rfl) (n := 8) (by rcases hp with rfl | rfl <;> rfl) (by rcases hp with rfl | rfl <;> rfl) (A := f.toInt) rfl (by omega) (by omega) (v := v295) (F_n F306 (show ¬ ((p + 3) = 1 ∧ ((f.toInt).toNat = 10 ∨ (f.toInt).toNat = 11)) by omega) w_296) (to_an (pc := 72) rw_42_72 rfl (tt_gI (pc := 73) rw_42_73 (g_o hG307 rfl) (v := (N.2.1 1 8)) c_321 (s_add (pc := 76) rw_42_76 (A := v295.toInt) (B := (N.2.1 1 8).toInt) rfl rfl (by omega) (fun v325 e326 => to_2s (pc := 77) rw_42_77 (v := ((1 : Int64) <<< (v325.toInt64 &&& 63))) rfl (to_ls (pc := 78) rw_42_78 (ls2 := [.ref p, .ref 1, .int f, .long y3, .null, .int x5, .int v302, .long ((1 : Int64) <<< (v325.toInt64 &&& 63)), .null]) rfl rfl (to_ln (pc := 80) rw_42_80 rfl rfl rfl ?_)))))))))))
              refine to_l (pc := 81) rw_42_81 rfl rfl rfl (to_2l (pc := 83) rw_42_83 (v := (y3 &&& ((1 : Int64) <<< (v325.toInt64 &&& 63)))) rfl (to_cl (pc := 84) rw_42_84 rfl (x := (0 : Int64)) rfl (s_lcmpE (pc := 85) rw_42_85 (fun v327 e328 => ?_))))
              have b_329 := x_eq_b (x := (y3 &&& ((1 : Int64) <<< (v325.toInt64 &&& 63)))) (y := (0 : Int64))
              have z_330 := x_hit_e (v := v325) (bits := y3) (h := (x_row sg 3 f.toInt + x_val t nn (N.2.1 1 9).toInt))
              refine b_ieq (pc := 86) rw_42_86 (A := v327.toInt) rfl (fun h331 => ?_) (fun h331 => ?_)
              · refine to_ln (pc := 95) rw_42_95 rfl rfl rfl (to_l (pc := 96) rw_42_96 rfl rfl rfl (to_2l (pc := 98) rw_42_98 (v := (y3 ||| ((1 : Int64) <<< (v325.toInt64 &&& 63)))) rfl (to_lsn (pc := 99) rw_42_99 (ls2 := [.ref p, .ref 1, .int f, .long (y3 ||| ((1 : Int64) <<< (v325.toInt64 &&& 63))), .null, .int x5, .int v302, .long ((1 : Int64) <<< (v325.toInt64 &&& 63)), .null]) rfl rfl (s_inc (pc := 100) rw_42_100 (ls2 := fun v => [.ref p, .ref 1, .int f, .long (y3 ||| ((1 : Int64) <<< (v325.toInt64 &&& 63))), .null, .int v, .int v302, .long ((1 : Int64) <<< (v325.toInt64 &&& 63)), .null]) rfl rfl (fun _ => rfl) (A := x5.toInt) (B := 1) rfl rfl (by omega) (fun v332 e333 => to_an (pc := 103) rw_42_103 rfl (s_v (pc := 104) rw_42_104 (dp0 hd (by decide)) (ls0 := [.ref 1]) rfl (Nat.le_of_ble_eq_true rfl) (Nat.le_of_ble_eq_true rfl) rfl (to_rc rfl rfl rfl (g_o hG307 rfl)) rfl ?_))))))
                have j_334 := (CS_f (tg_34 F306) g5)
                have c_335 : M312.2.1 1 9 = (N.2.1 1 9) := (F_n F306 (show ¬ (1 = 1 ∧ (9 = 10 ∨ 9 = 11)) by decide) rfl)
                have t_336 : (M312.2.1 1 9).toInt = (N.2.1 1 9).toInt := congrArg Int32.toInt c_335
                refine E_83 hX (dp1 hd (by decide)) hG307 j_334 (by omega) (t := t) (nn := nn) (a := (N.2.1 1 9).toInt) (fun M341 hG338 F337 p_339 p_340 => ?_)
                have F342 := FR.c F313 F337 (fun a i z => show a = 1 ∧ 6 ≤ i ∧ i ≤ 11 ∨ a = p + 8 by have z : a = 1 ∧ 6 ≤ i ∧ i ≤ 9 := z; omega)
                refine to_go (pc := 107) rw_42_107 ?_
                have c_343 : M341.2.1 p 3 = (N.2.1 p 3) := (F_n F337 (show ¬ (p = 1 ∧ 6 ≤ 3 ∧ 3 ≤ 9) by omega) (F_n F306 (show ¬ (p = 1 ∧ (3 = 10 ∨ 3 = 11)) by omega) rfl))
                have t_344 : (M341.2.1 p 3).toInt = (N.2.1 p 3).toInt := congrArg Int32.toInt c_343
                have j_345 := (PLc_f (fun a i z => F_n F337 (show ¬ (a = 1 ∧ 6 ≤ i ∧ i ≤ 9) by omega) rfl) (F_nl F337 (show ¬ (p = 1 ∧ 6 ≤ 4 ∧ 4 ≤ 9) by omega) rfl) (PLc_f (fun a i z => F_n F306 (show ¬ (a = 1 ∧ (i = 10 ∨ i = 11)) by omega) rfl) (F_nl F306 (show ¬ (p = 1 ∧ (4 = 10 ∨ 4 = 11)) by omega) rfl) g6))
                have j_346 := (CW_f (fun k hk9 => F_nl F337 (show ¬ ((p + 8) = 1 ∧ 6 ≤ k ∧ k ≤ 9) by omega) rfl) (CW_f (fun k hk9 => F_nl F306 (show ¬ ((p + 8) = 1 ∧ (k = 10 ∨ k = 11)) by omega) rfl) g7))
                exact ih M341 (y3 ||| ((1 : Int64) <<< (v325.toInt64 &&& 63))) v332 (.int v302) (.long ((1 : Int64) <<< (v325.toInt64 &&& 63))) (.null) hG338 F342 (by omega) (by omega) (by omega) (by omega) p_339 j_345 j_346 (x_rc_s (fu := (6 - x5.toInt).toNat) (told := x5.toInt) (bits := y3) (b := (N.2.1 1 9).toInt) (by omega) (by omega) (by omega) (by omega) (by omega) (congrArg (fun z => y3 ||| z) (x_bit_e (v := v325) (by omega))) g8) (by omega)
              · refine to_an (pc := 89) rw_42_89 rfl (to_c (pc := 90) rw_42_90 (x := (3 : Int32)) rfl rfl (s_v (pc := 91) rw_42_91 (dp0 hd (by decide)) (ls0 := [.ref 1, .int (3 : Int32)]) rfl (Nat.le_of_ble_eq_true rfl) (Nat.le_of_ble_eq_true rfl) rfl (to_rc rfl rfl rfl (g_o hG307 rfl)) rfl (to_an (pc := 0) rw_84_0 rfl (to_in (pc := 1) rw_84_1 rfl (s_pI (pc := 2) rw_84_2 hG307 rfl (fun M348 W347 => ?_))))))
                have hG349 := g_wf hG307 W347 rfl rfl (by decide)
                have F350 := FR.w F313 W347 (show 1 = 1 ∧ 6 ≤ 10 ∧ 10 ≤ 11 ∨ 1 = p + 8 by omega)
                refine to_an (pc := 5) rw_84_5 rfl (to_an (pc := 6) rw_84_6 rfl ?_)
                have c_351 : M348.2.1 1 9 = (N.2.1 1 9) := (W_n W347 (by decide) (F_n F306 (show ¬ (1 = 1 ∧ (9 = 10 ∨ 9 = 11)) by decide) rfl))
                refine tt_gI (pc := 7) rw_84_7 (g_o hG349 rfl) (v := (N.2.1 1 9)) c_351 (s_pI (pc := 10) rw_84_10 hG349 rfl (fun M353 W352 => ?_))
                have hG354 := g_wf hG349 W352 rfl rfl (by decide)
                have F355 := FR.w F350 W352 (show 1 = 1 ∧ 6 ≤ 11 ∧ 11 ≤ 11 ∨ 1 = p + 8 by omega)
                refine to_c (pc := 13) rw_84_13 (x := (0 : Int32)) rfl rfl (s_r1 (pc := 14) rw_84_14 (A := 0) rfl (by decide) (s_r1 (pc := 94) rw_42_94 (A := 0) rfl (by decide) ?_))
                have j_356 := (CS_f (fun a i z => W_n W352 (tg_32 a i z) rfl) (CS_f (fun a i z => W_n W347 (tg_33 a i z) rfl) (CS_f (tg_34 F306) g5)))
                have j_357 := (PLc_f (fun a i z => W_n W352 (by /-r1,11-/ omega) rfl) (W_j W352 rfl) (PLc_f (fun a i z => W_n W347 (by /-r1,10-/ omega) rfl) (W_j W347 rfl) (PLc_f (fun a i z => F_n F306 (show ¬ (a = 1 ∧ (i = 10 ∨ i = 11)) by omega) rfl) (F_nl F306 (show ¬ (p = 1 ∧ (4 = 10 ∨ 4 = 11)) by omega) rfl) g6)))
                have j_358 := (CW_f (fun k hk9 => W_j W352 rfl) (CW_f (fun k hk9 => W_j W347 rfl) (CW_f (fun k hk9 => F_nl F306 (show ¬ ((p + 8) = 1 ∧ (k = 10 ∨ k = 11)) by omega) rfl) g7)))
                exact h (0 : Int32) M353 hG354 F355 (by decide) (by decide) j_356 j_357 j_358 (fun _ => g8.symm.trans (by first | exact x_rc_n1 (by omega) (by omega) | exact x_rc_n2 (by omega) (by omega) | exact (if g9 : x_kind t nn (N.2.1 1 9).toInt = 3 then x_rc_n1 g9 (by omega) else x_rc_n2 g9 (by omega)))) (fun z => absurd z (by decide))
set_option maxRecDepth 4000 in
set_option maxHeartbeats 0 in
theorem E_42 {X : mm_X} {d : Nat} {M : mm_M} {Q : Option Value → mm_M → Prop} {p : Nat} {f : Int32} {t : Nat → Int} {nn : Int} {a : Int} {sg : x_S} {k : x_K} {nm : Int} (hX : g_X X) (hd : 2 ≤ d) (hG : g_G M) (hp : p = 49 ∨ p = 58) (q1 : CS M t nn) (q2 : (M.2.1 1 9).toInt = a) (q3 : PLc M p sg) (q4 : CW M p sg) (q5 : 0 ≤ f.toInt) (q6 : f.toInt ≤ 7) (q7 : f.toInt < sg.2.1) (q8 : x_row sg 2 f.toInt = 3) (q9 : (M.2.1 p 3).toInt ≤ 11) (h : ∀ (r : Int32) (M1 : mm_M), g_G M1 → FR (md_c42e p) M M1 → (0 ≤ r.toInt) → (r.toInt ≤ 1) → CS M1 t nn → PLc M1 p sg → CW M1 p sg → ((r.toInt = 0 → x_rc t nn sg f.toInt nm k 6 0 0 a = none)) → ((r.toInt = 1 → x_rc t nn sg f.toInt nm k 6 0 0 a = k (M1.2.1 1 9).toInt (x_pushw sg nm f.toInt (M1.2.2.1 (p + 8) sg.2.2.1.toNat).toInt) ∨ x_rc t nn sg f.toInt nm k 6 0 0 a = none ∧ ¬ (x_kind t nn (M1.2.1 1 9).toInt = 4 ∧ x_val t nn (M1.2.1 1 9).toInt = 59))) → Q (some (.int r)) M1) : mm_T X d 42 0 [.ref p, .ref 1, .int f, .null, .null, .null, .null, .null, .null] [] M Q := by
  have F0 : FR (md_c42e p) M M := FR.rf
  have b_359 := g_b hG (a := p) (i := 3) (lo := 0) (hi := 12) (by rcases hp with rfl | rfl <;> rfl) (by rcases hp with rfl | rfl <;> rfl)
  have z_360 := q3.2.1
  have z_361 := q3.2.2.1
  have z_362 := q3.2.2.2.1
  have z_363 := q3.1
  have z_364 := z_363.1
  have z_365 := z_363.2.1
  have z_366 := z_363.2.2.1
  have z_367 := z_363.2.2.2.1
  have z_368 := z_363.2.2.2.2.1
  have z_369 := z_363.2.2.2.2.2.1
  have b_370 := g_b hG (a := p) (i := 2) (lo := 0) (hi := 8) (by rcases hp with rfl | rfl <;> rfl) (by rcases hp with rfl | rfl <;> rfl)
  have z_371 := q3.1.2.2.2.2.2.2.2 f.toInt (by omega) (by omega)
  refine to_cl (pc := 0) rw_42_0 rfl (x := (0 : Int64)) rfl (to_lsn (pc := 1) rw_42_1 (ls2 := [.ref p, .ref 1, .int f, .long (0 : Int64), .null, .null, .null, .null, .null]) rfl rfl (to_c (pc := 2) rw_42_2 (x := (0 : Int32)) rfl rfl (to_is (pc := 3) rw_42_3 (ls2 := [.ref p, .ref 1, .int f, .long (0 : Int64), .null, .int (0 : Int32), .null, .null, .null]) rfl rfl ?_)))
  have k_372 : (0 : Int32).toInt = 0 := rfl
  exact (U_42_0 (p := p) (f := f) (t := t) (nn := nn) (a := a) (sg := sg) (k := k) (nm := nm) hX hd hp q1 q2 q3 q4 q5 q6 q7 q8 q9 h ((10 - (0 : Int32).toInt).toNat + 1)) M (0 : Int64) (0 : Int32) (.null) (.null) (.null) hG F0 (by omega) (by omega) (by omega) (by omega) q1 q3 q4 (by rw [show (M.2.1 1 9).toInt = a by omega]; rfl) (by omega)
set_option maxRecDepth 4000 in
set_option maxHeartbeats 0 in
theorem E_41 {X : mm_X} {d : Nat} {M : mm_M} {Q : Option Value → mm_M → Prop} {p : Nat} {t : Nat → Int} {nn : Int} {a : Int} {sg : x_S} {k : x_K} (hX : g_X X) (hd : 3 ≤ d) (hG : g_G M) (hp : p = 49 ∨ p = 58) (q1 : CS M t nn) (q2 : (M.2.1 1 9).toInt = a) (q3 : PLc M p sg) (q4 : CW M p sg) (h : ∀ (r : Int32) (M1 : mm_M), g_G M1 → FR (md_w41 p) M M1 → (0 ≤ r.toInt) → (r.toInt ≤ 1) → CS M1 t nn → ((r.toInt = 0 → x_word t nn sg (x_ns t nn a) k = none)) → ((r.toInt = 1 → (∃ s2 : x_S, x_word t nn sg (x_ns t nn a) k = k (M1.2.1 1 9).toInt s2 ∧ PLc2 M1 p s2 ∧ s2.2.1 + s2.2.2.1 = sg.2.1 + sg.2.2.1 + 1) ∨ x_word t nn sg (x_ns t nn a) k = none ∧ ¬ (x_kind t nn (M1.2.1 1 9).toInt = 4 ∧ x_val t nn (M1.2.1 1 9).toInt = 59))) → Q (some (.int r)) M1) : mm_T X d 41 0 [.ref p, .ref 1, .null] [] M Q := by
  have F0 : FR (md_w41 p) M M := FR.rf
  have z_1 := q3.2.1
  have z_2 := q3.2.2.1
  have z_3 := q3.2.2.2.1
  have z_4 := q3.1
  have z_5 := z_4.1
  have z_6 := z_4.2.1
  have z_7 := z_4.2.2.1
  have z_8 := z_4.2.2.2.1
  have z_9 := z_4.2.2.2.2.1
  have z_10 := z_4.2.2.2.2.2.1
  have b_11 := g_b hG (a := p) (i := 0) (lo := 10) (hi := 60) (by rcases hp with rfl | rfl <;> rfl) (by rcases hp with rfl | rfl <;> rfl)
  have b_12 := g_b hG (a := p) (i := 2) (lo := 0) (hi := 8) (by rcases hp with rfl | rfl <;> rfl) (by rcases hp with rfl | rfl <;> rfl)
  have b_13 := g_b hG (a := p) (i := 3) (lo := 0) (hi := 12) (by rcases hp with rfl | rfl <;> rfl) (by rcases hp with rfl | rfl <;> rfl)
  have z_14 := x_fn_b (s := sg) (v := x_val t nn (x_ns t nn a)) q3.1
  refine to_an (pc := 0) rw_41_0 rfl (tt_gI (pc := 1) rw_41_1 (g_o hG (by rcases hp with rfl | rfl <;> rfl)) (v := (M.2.1 p 3)) rfl (to_c (pc := 4) rw_41_4 (x := (12 : Int32)) rfl rfl (b_clt (pc := 6) rw_41_6 (A := (M.2.1 p 3).toInt) (B := 12) rfl rfl (fun h15 => ?_) (fun h15 => ?_))))
  · refine to_an (pc := 15) rw_41_15 rfl (s_v (pc := 16) rw_41_16 (dp0 hd (by decide)) (ls0 := [.ref 1]) rfl (Nat.le_of_ble_eq_true rfl) (Nat.le_of_ble_eq_true rfl) rfl (to_rc rfl rfl rfl (g_o hG rfl)) rfl (E_83 hX (dp1 hd (by decide)) hG q1 (by omega) (t := t) (nn := nn) (a := a) (fun M20 hG17 F16 p_18 p_19 => ?_)))
    have F21 := FR.c F0 F16 (fun a i z => show a = 1 ∧ 6 ≤ i ∧ i ≤ 11 ∨ a = p ∧ i = 3 ∨ p + 6 ≤ a ∧ a ≤ p + 8 by have z : a = 1 ∧ 6 ≤ i ∧ i ≤ 9 := z; omega)
    refine to_an (pc := 19) rw_41_19 rfl ?_
    have c_22 := CS_u p_18 (a := (x_ns t nn a)) (by omega)
    unfold x_C at c_22
    refine tt_gI (pc := 20) rw_41_20 (g_o hG17 rfl) (v := (M20.2.1 1 7)) rfl (to_c (pc := 23) rw_41_23 (x := (3 : Int32)) rfl rfl (b_ceq (pc := 24) rw_41_24 (A := (M20.2.1 1 7).toInt) (B := 3) rfl rfl (fun h23 => ?_) (fun h23 => ?_)))
    · refine to_an (pc := 33) rw_41_33 rfl (to_an (pc := 34) rw_41_34 rfl (tt_gI (pc := 35) rw_41_35 (g_o hG17 rfl) (v := (M20.2.1 1 8)) rfl (s_v (pc := 38) rw_41_38 (dp0 hd (by decide)) (ls0 := [.ref p, .int (M20.2.1 1 8)]) rfl (Nat.le_of_ble_eq_true rfl) (Nat.le_of_ble_eq_true rfl) rfl (to_rc rfl rfl rfl (g_o hG17 (by rcases hp with rfl | rfl <;> rfl))) rfl (to_an (pc := 0) rw_52_0 rfl (s_gR (pc := 1) rw_52_1 hG17 (by rcases hp with rfl | rfl <;> rfl) (v := (p + 1)) (by rcases hp with rfl | rfl <;> rfl) (to_an (pc := 4) rw_52_4 rfl ?_))))))
      have c_24 : M20.2.1 p 2 = (M.2.1 p 2) := (F_n F16 (show ¬ (p = 1 ∧ 6 ≤ 2 ∧ 2 ≤ 9) by omega) rfl)
      refine tt_gI (pc := 5) rw_52_5 (g_o hG17 (by rcases hp with rfl | rfl <;> rfl)) (v := (M.2.1 p 2)) c_24 (to_in (pc := 8) rw_52_8 rfl (s_s (pc := 9) rw_52_9 (dp1 hd (by decide)) (ls0 := [.ref (p + 1), .int (M.2.1 p 2), .int (M20.2.1 1 8), .null]) rfl (Nat.le_of_ble_eq_true rfl) (Nat.le_of_ble_eq_true rfl) rfl (to_rcs rfl rfl) rfl ?_))
      have j_25 := (PLc_f (fun a i z => F_n F16 (show ¬ (a = 1 ∧ 6 ≤ i ∧ i ≤ 9) by omega) rfl) (F_nl F16 (show ¬ (p = 1 ∧ 6 ≤ 4 ∧ 4 ≤ 9) by omega) rfl) q3)
      refine E_54f hX (dp2 hd (by decide)) hG17 (by omega) (by omega) (by omega) (f := (p + 1)) (s := (M.2.1 p 2)) (x := (M20.2.1 1 8)) (fun r26 M32 hG28 F27 p_29 p_30 p_31 => ?_)
      have F33 := FR.c F21 F27 (fun a i z => show a = 1 ∧ 6 ≤ i ∧ i ≤ 11 ∨ a = p ∧ i = 3 ∨ p + 6 ≤ a ∧ a ≤ p + 8 by have z : a < 0 := z; omega)
      have z_34 := PLc_n (v := (M20.2.1 1 8).toInt) j_25 (n := (M.2.1 p 2).toInt) (by omega)
      have z_35 := x_fn_v (s := sg) (r := 1) (v := (M20.2.1 1 8).toInt) (w := x_val t nn (x_ns t nn a))
      refine to_r0 (pc := 12) rw_52_12 (to_isn (pc := 41) rw_41_41 (ls2 := [.ref p, .ref 1, .int r26]) rfl rfl (to_an (pc := 42) rw_41_42 rfl (to_in (pc := 43) rw_41_43 rfl (s_v (pc := 44) rw_41_44 (dp0 hd (by decide)) (ls0 := [.ref p, .int r26]) rfl (Nat.le_of_ble_eq_true rfl) (Nat.le_of_ble_eq_true rfl) rfl (to_rc rfl rfl rfl (g_o hG28 (by rcases hp with rfl | rfl <;> rfl))) rfl (to_in (pc := 0) rw_43_0 rfl (b_ilt (pc := 1) rw_43_1 (A := r26.toInt) rfl (fun h36 => ?_) (fun h36 => ?_)))))))
      · refine to_c (pc := 16) rw_43_16 (x := (0 : Int32)) rfl rfl (s_r1 (pc := 17) rw_43_17 (A := 0) rfl (by decide) (b_ieq_t (pc := 47) rw_41_47 (A := 0) rfl (by decide) (to_an (pc := 58) rw_41_58 rfl (to_c (pc := 59) rw_41_59 (x := (4 : Int32)) rfl rfl (s_v (pc := 60) rw_41_60 (dp0 hd (by decide)) (ls0 := [.ref 1, .int (4 : Int32)]) rfl (Nat.le_of_ble_eq_true rfl) (Nat.le_of_ble_eq_true rfl) rfl (to_rc rfl rfl rfl (g_o hG28 rfl)) rfl (to_an (pc := 0) rw_84_0 rfl (to_in (pc := 1) rw_84_1 rfl (s_pI (pc := 2) rw_84_2 hG28 rfl (fun M38 W37 => ?_)))))))))
        have hG39 := g_wf hG28 W37 rfl rfl (by decide)
        have F40 := FR.w F33 W37 (show 1 = 1 ∧ 6 ≤ 10 ∧ 10 ≤ 11 ∨ 1 = p ∧ 10 = 3 ∨ p + 6 ≤ 1 ∧ 1 ≤ p + 8 by omega)
        refine to_an (pc := 5) rw_84_5 rfl (to_an (pc := 6) rw_84_6 rfl ?_)
        have c_41 : M38.2.1 1 9 = (M20.2.1 1 9) := (W_n W37 (by decide) (F_n F27 (show ¬ (1 < 0) by decide) rfl))
        refine tt_gI (pc := 7) rw_84_7 (g_o hG39 rfl) (v := (M20.2.1 1 9)) c_41 (s_pI (pc := 10) rw_84_10 hG39 rfl (fun M43 W42 => ?_))
        have hG44 := g_wf hG39 W42 rfl rfl (by decide)
        have F45 := FR.w F40 W42 (show 1 = 1 ∧ 6 ≤ 11 ∧ 11 ≤ 11 ∨ 1 = p ∧ 11 = 3 ∨ p + 6 ≤ 1 ∧ 1 ≤ p + 8 by omega)
        refine to_c (pc := 13) rw_84_13 (x := (0 : Int32)) rfl rfl (s_r1 (pc := 14) rw_84_14 (A := 0) rfl (by decide) (s_r1 (pc := 63) rw_41_63 (A := 0) rfl (by decide) ?_))
        have k_46 : (0 : Int32).toInt = 0 := rfl
        have j_47 := (CS_f (fun a i z => W_n W42 (tg_32 a i z) rfl) (CS_f (fun a i z => W_n W37 (tg_33 a i z) rfl) (CS_f (tg_28 F27) p_18)))
        exact h (0 : Int32) M43 hG44 F45 (by decide) (by decide) j_47 (fun _ => x_word_n (by omega)) (fun z => absurd z (by decide))
      · refine to_in (pc := 4) rw_43_4 rfl (to_an (pc := 5) rw_43_5 rfl ?_)
        have c_48 : M32.2.1 p 2 = (M.2.1 p 2) := (F_n F27 (show ¬ (p < 0) by omega) c_24)
        refine tt_gI (pc := 6) rw_43_6 (g_o hG28 (by rcases hp with rfl | rfl <;> rfl)) (v := (M.2.1 p 2)) c_48 (b_cge (pc := 9) rw_43_9 (A := r26.toInt) (B := (M.2.1 p 2).toInt) rfl rfl (fun h49 => ?_) (fun h49 => ?_))
        · refine to_c (pc := 16) rw_43_16 (x := (0 : Int32)) rfl rfl (s_r1 (pc := 17) rw_43_17 (A := 0) rfl (by decide) (b_ieq_t (pc := 47) rw_41_47 (A := 0) rfl (by decide) (to_an (pc := 58) rw_41_58 rfl (to_c (pc := 59) rw_41_59 (x := (4 : Int32)) rfl rfl (s_v (pc := 60) rw_41_60 (dp0 hd (by decide)) (ls0 := [.ref 1, .int (4 : Int32)]) rfl (Nat.le_of_ble_eq_true rfl) (Nat.le_of_ble_eq_true rfl) rfl (to_rc rfl rfl rfl (g_o hG28 rfl)) rfl (to_an (pc := 0) rw_84_0 rfl (to_in (pc := 1) rw_84_1 rfl (s_pI (pc := 2) rw_84_2 hG28 rfl (fun M51 W50 => ?_)))))))))
          have hG52 := g_wf hG28 W50 rfl rfl (by decide)
          have F53 := FR.w F33 W50 (show 1 = 1 ∧ 6 ≤ 10 ∧ 10 ≤ 11 ∨ 1 = p ∧ 10 = 3 ∨ p + 6 ≤ 1 ∧ 1 ≤ p + 8 by omega)
          refine to_an (pc := 5) rw_84_5 rfl (to_an (pc := 6) rw_84_6 rfl ?_)
          have c_54 : M51.2.1 1 9 = (M20.2.1 1 9) := (W_n W50 (by decide) (F_n F27 (show ¬ (1 < 0) by decide) rfl))
          refine tt_gI (pc := 7) rw_84_7 (g_o hG52 rfl) (v := (M20.2.1 1 9)) c_54 (s_pI (pc := 10) rw_84_10 hG52 rfl (fun M56 W55 => ?_))
          have hG57 := g_wf hG52 W55 rfl rfl (by decide)
          have F58 := FR.w F53 W55 (show 1 = 1 ∧ 6 ≤ 11 ∧ 11 ≤ 11 ∨ 1 = p ∧ 11 = 3 ∨ p + 6 ≤ 1 ∧ 1 ≤ p + 8 by omega)
          refine to_c (pc := 13) rw_84_13 (x := (0 : Int32)) rfl rfl (s_r1 (pc := 14) rw_84_14 (A := 0) rfl (by decide) (s_r1 (pc := 63) rw_41_63 (A := 0) rfl (by decide) ?_))
          have k_59 : (0 : Int32).toInt = 0 := rfl
          have j_60 := (CS_f (fun a i z => W_n W55 (tg_32 a i z) rfl) (CS_f (fun a i z => W_n W50 (tg_33 a i z) rfl) (CS_f (tg_28 F27) p_18)))
          exact h (0 : Int32) M56 hG57 F58 (by decide) (by decide) j_60 (fun _ => x_word_n (by omega)) (fun z => absurd z (by decide))
        · refine to_c (pc := 12) rw_43_12 (x := (1 : Int32)) rfl rfl (to_go (pc := 13) rw_43_13 (s_r1 (pc := 17) rw_43_17 (A := 1) rfl (by decide) (b_ieq_f (pc := 47) rw_41_47 (A := 1) rfl (by decide) (to_an (pc := 50) rw_41_50 rfl (to_in (pc := 51) rw_41_51 rfl (s_v (pc := 52) rw_41_52 (dp0 hd (by decide)) (ls0 := [.ref p, .int r26]) rfl (Nat.le_of_ble_eq_true rfl) (Nat.le_of_ble_eq_true rfl) rfl (to_rc rfl rfl rfl (g_o hG28 (by rcases hp with rfl | rfl <;> rfl))) rfl (to_an (pc := 0) rw_45_0 rfl (s_gR (pc := 1) rw_45_1 hG28 (by rcases hp with rfl | rfl <;> rfl) (v := (p + 2)) (by rcases hp with rfl | rfl <;> rfl) (to_in (pc := 4) rw_45_4 rfl (s_ial (pc := 5) rw_45_5 hG28 (by rcases hp with rfl | rfl <;> rfl) (n := 8) (by rcases hp with rfl | rfl <;> rfl) (by rcases hp with rfl | rfl <;> rfl) (A := r26.toInt) rfl (by omega) (by omega) (lo := 0) (hi := 3) (by rcases hp with rfl | rfl <;> rfl) (by rcases hp with rfl | rfl <;> rfl) (fun v61 w_62 _ _ => ?_)))))))))))
          have j_63 := (PLc_f (fun a i z => F_n F27 (show ¬ (a < 0) by omega) rfl) (F_nl F27 (show ¬ (p < 0) by omega) rfl) j_25)
          have z_64 := PLc_r j_63 2 (by decide) (by decide) (k := r26.toInt) (by omega) (by omega) w_62
          have z_65 := x_row_v (s := sg) (r := 2) (x := r26.toInt) (y := x_fn sg 1 (x_val t nn (x_ns t nn a)))
          refine to_c (pc := 6) rw_45_6 (x := (3 : Int32)) rfl rfl (b_cne (pc := 7) rw_45_7 (A := v61.toInt) (B := 3) rfl rfl (fun h66 => ?_) (fun h66 => ?_))
          · refine to_c (pc := 14) rw_45_14 (x := (0 : Int32)) rfl rfl (s_r1 (pc := 15) rw_45_15 (A := 0) rfl (by decide) (b_ine_f (pc := 55) rw_41_55 (A := 0) rfl (by decide) (to_an (pc := 58) rw_41_58 rfl (to_c (pc := 59) rw_41_59 (x := (4 : Int32)) rfl rfl (s_v (pc := 60) rw_41_60 (dp0 hd (by decide)) (ls0 := [.ref 1, .int (4 : Int32)]) rfl (Nat.le_of_ble_eq_true rfl) (Nat.le_of_ble_eq_true rfl) rfl (to_rc rfl rfl rfl (g_o hG28 rfl)) rfl (to_an (pc := 0) rw_84_0 rfl (to_in (pc := 1) rw_84_1 rfl (s_pI (pc := 2) rw_84_2 hG28 rfl (fun M68 W67 => ?_)))))))))
            have hG69 := g_wf hG28 W67 rfl rfl (by decide)
            have F70 := FR.w F33 W67 (show 1 = 1 ∧ 6 ≤ 10 ∧ 10 ≤ 11 ∨ 1 = p ∧ 10 = 3 ∨ p + 6 ≤ 1 ∧ 1 ≤ p + 8 by omega)
            refine to_an (pc := 5) rw_84_5 rfl (to_an (pc := 6) rw_84_6 rfl ?_)
            have c_71 : M68.2.1 1 9 = (M20.2.1 1 9) := (W_n W67 (by decide) (F_n F27 (show ¬ (1 < 0) by decide) rfl))
            refine tt_gI (pc := 7) rw_84_7 (g_o hG69 rfl) (v := (M20.2.1 1 9)) c_71 (s_pI (pc := 10) rw_84_10 hG69 rfl (fun M73 W72 => ?_))
            have hG74 := g_wf hG69 W72 rfl rfl (by decide)
            have F75 := FR.w F70 W72 (show 1 = 1 ∧ 6 ≤ 11 ∧ 11 ≤ 11 ∨ 1 = p ∧ 11 = 3 ∨ p + 6 ≤ 1 ∧ 1 ≤ p + 8 by omega)
            refine to_c (pc := 13) rw_84_13 (x := (0 : Int32)) rfl rfl (s_r1 (pc := 14) rw_84_14 (A := 0) rfl (by decide) (s_r1 (pc := 63) rw_41_63 (A := 0) rfl (by decide) ?_))
            have k_76 : (0 : Int32).toInt = 0 := rfl
            have j_77 := (CS_f (fun a i z => W_n W72 (tg_32 a i z) rfl) (CS_f (fun a i z => W_n W67 (tg_33 a i z) rfl) (CS_f (tg_28 F27) p_18)))
            exact h (0 : Int32) M73 hG74 F75 (by decide) (by decide) j_77 (fun _ => x_word_n (by omega)) (fun z => absurd z (by decide))
          · refine to_c (pc := 10) rw_45_10 (x := (1 : Int32)) rfl rfl (to_go (pc := 11) rw_45_11 (s_r1 (pc := 15) rw_45_15 (A := 1) rfl (by decide) (b_ine_t (pc := 55) rw_41_55 (A := 1) rfl (by decide) (to_an (pc := 64) rw_41_64 rfl (s_v (pc := 65) rw_41_65 (dp0 hd (by decide)) (ls0 := [.ref 1]) rfl (Nat.le_of_ble_eq_true rfl) (Nat.le_of_ble_eq_true rfl) rfl (to_rc rfl rfl rfl (g_o hG28 rfl)) rfl ?_)))))
            have j_78 := (CS_f (tg_28 F27) p_18)
            have c_79 : M32.2.1 1 9 = (M20.2.1 1 9) := (F_n F27 (show ¬ (1 < 0) by decide) rfl)
            have t_80 : (M32.2.1 1 9).toInt = (M20.2.1 1 9).toInt := congrArg Int32.toInt c_79
            refine E_83 hX (dp1 hd (by decide)) hG28 j_78 (by omega) (t := t) (nn := nn) (a := (x_ns t nn a)) (fun M85 hG82 F81 p_83 p_84 => ?_)
            have F86 := FR.c F33 F81 (fun a i z => show a = 1 ∧ 6 ≤ i ∧ i ≤ 11 ∨ a = p ∧ i = 3 ∨ p + 6 ≤ a ∧ a ≤ p + 8 by have z : a = 1 ∧ 6 ≤ i ∧ i ≤ 9 := z; omega)
            refine to_an (pc := 68) rw_41_68 rfl (to_an (pc := 69) rw_41_69 rfl (s_v (pc := 70) rw_41_70 (dp0 hd (by decide)) (ls0 := [.ref p, .ref 1]) rfl (Nat.le_of_ble_eq_true rfl) (Nat.le_of_ble_eq_true rfl) rfl (to_rc rfl rfl rfl (g_o hG82 (by rcases hp with rfl | rfl <;> rfl))) rfl ?_))
            have j_87 := (PLc_f (fun a i z => F_n F81 (show ¬ (a = 1 ∧ 6 ≤ i ∧ i ≤ 9) by omega) rfl) (F_nl F81 (show ¬ (p = 1 ∧ 6 ≤ 4 ∧ 4 ≤ 9) by omega) rfl) j_63)
            refine E_34 hX (dp1 hd (by decide)) hG82 hp p_83 (by omega) j_87 (p := p) (t := t) (nn := nn) (a := (x_ns t nn (x_ns t nn a))) (sg := sg) (fun r88 M96 hG90 F89 p_91 p_92 p_93 p_94 p_95 => ?_)
            have F97 := FR.c F86 F89 (fun a i z => show a = 1 ∧ 6 ≤ i ∧ i ≤ 11 ∨ a = p ∧ i = 3 ∨ p + 6 ≤ a ∧ a ≤ p + 8 by have z : a = 1 ∧ (i = 10 ∨ i = 11) := z; omega)
            rcases (show r88.toInt = 0 ∨ r88.toInt = 1 by omega) with h98 | h98
            · skip
              have p_99 := p_95 (by omega)
              clear p_93 p_94 p_95
              refine b_ine_f (pc := 73) rw_41_73 (A := r88.toInt) rfl (by omega) (to_c (pc := 76) rw_41_76 (x := (0 : Int32)) rfl rfl (s_r1 (pc := 77) rw_41_77 (A := 0) rfl (by decide) ?_))
              have k_100 : (0 : Int32).toInt = 0 := rfl
              have j_101 := (CS_f (tg_34 F89) p_83)
              exact h (0 : Int32) M96 hG90 F97 (by decide) (by decide) j_101 (fun _ => x_word_n (by omega)) (fun z => absurd z (by decide))
            · skip
              have p_102 := p_93 (by omega)
              have p_103 := p_94 (by omega)
              clear p_93 p_94 p_95
              refine b_ine_t (pc := 73) rw_41_73 (A := r88.toInt) rfl (by omega) (to_an (pc := 78) rw_41_78 rfl (s_gR (pc := 79) rw_41_79 hG90 (by rcases hp with rfl | rfl <;> rfl) (v := (p + 6)) (by rcases hp with rfl | rfl <;> rfl) (to_an (pc := 82) rw_41_82 rfl ?_)))
              have c_104 : M96.2.1 p 3 = (M.2.1 p 3) := (F_n F89 (show ¬ (p = 1 ∧ (3 = 10 ∨ 3 = 11)) by omega) (F_n F81 (show ¬ (p = 1 ∧ 6 ≤ 3 ∧ 3 ≤ 9) by omega) (F_n F27 (show ¬ (p < 0) by omega) (F_n F16 (show ¬ (p = 1 ∧ 6 ≤ 3 ∧ 3 ≤ 9) by omega) rfl))))
              refine tt_gI (pc := 83) rw_41_83 (g_o hG90 (by rcases hp with rfl | rfl <;> rfl)) (v := (M.2.1 p 3)) c_104 (to_an (pc := 86) rw_41_86 rfl ?_)
              have c_105 : M96.2.1 1 8 = (M85.2.1 1 8) := (F_n F89 (show ¬ (1 = 1 ∧ (8 = 10 ∨ 8 = 11)) by decide) rfl)
              refine tt_gI (pc := 87) rw_41_87 (g_o hG90 rfl) (v := (M85.2.1 1 8)) c_105 (s_ias (pc := 90) rw_41_90 hG90 (by rcases hp with rfl | rfl <;> rfl) (n := 12) (by rcases hp with rfl | rfl <;> rfl) (A := (M.2.1 p 3).toInt) rfl (by omega) (by omega) (fun M107 W106 => ?_))
              have hG108 := g_wf hG90 W106 (by rcases hp with rfl | rfl <;> rfl) (by rcases hp with rfl | rfl <;> rfl) (by omega)
              have F109 := FR.w F97 W106 (show (p + 6) = 1 ∧ 6 ≤ ((M.2.1 p 3).toInt).toNat ∧ ((M.2.1 p 3).toInt).toNat ≤ 11 ∨ (p + 6) = p ∧ ((M.2.1 p 3).toInt).toNat = 3 ∨ p + 6 ≤ (p + 6) ∧ (p + 6) ≤ p + 8 by omega)
              refine to_an (pc := 91) rw_41_91 rfl (s_gR (pc := 92) rw_41_92 hG108 (by rcases hp with rfl | rfl <;> rfl) (v := (p + 7)) (by rcases hp with rfl | rfl <;> rfl) (to_an (pc := 95) rw_41_95 rfl ?_))
              have c_110 : M107.2.1 p 3 = (M.2.1 p 3) := (W_n W106 (by omega) c_104)
              refine tt_gI (pc := 96) rw_41_96 (g_o hG108 (by rcases hp with rfl | rfl <;> rfl)) (v := (M.2.1 p 3)) c_110 (to_in (pc := 99) rw_41_99 rfl (s_ias (pc := 100) rw_41_100 hG108 (by rcases hp with rfl | rfl <;> rfl) (n := 12) (by rcases hp with rfl | rfl <;> rfl) (A := (M.2.1 p 3).toInt) rfl (by omega) (by omega) (fun M112 W111 => ?_)))
              have hG113 := g_w hG108 W111 (A := r26.toInt) rfl (lo := 0) (hi := 7) (by rcases hp with rfl | rfl <;> rfl) (by rcases hp with rfl | rfl <;> rfl) (by omega) (by omega)
              have F114 := FR.w F109 W111 (show (p + 7) = 1 ∧ 6 ≤ ((M.2.1 p 3).toInt).toNat ∧ ((M.2.1 p 3).toInt).toNat ≤ 11 ∨ (p + 7) = p ∧ ((M.2.1 p 3).toInt).toNat = 3 ∨ p + 6 ≤ (p + 7) ∧ (p + 7) ≤ p + 8 by omega)
              refine to_an (pc := 101) rw_41_101 rfl (s_v (pc := 102) rw_41_102 (dp0 hd (by decide)) (ls0 := [.ref 1]) rfl (Nat.le_of_ble_eq_true rfl) (Nat.le_of_ble_eq_true rfl) rfl (to_rc rfl rfl rfl (g_o hG113 rfl)) rfl ?_)
              have j_115 := (CS_f (fun a i z => W_n W111 (by omega) rfl) (CS_f (fun a i z => W_n W106 (by omega) rfl) (CS_f (tg_34 F89) p_83)))
              have c_116 : M112.2.1 1 9 = (M85.2.1 1 9) := (W_n W111 (by omega) (W_n W106 (by omega) (F_n F89 (show ¬ (1 = 1 ∧ (9 = 10 ∨ 9 = 11)) by decide) rfl)))
              have t_117 : (M112.2.1 1 9).toInt = (M85.2.1 1 9).toInt := congrArg Int32.toInt c_116
              refine E_83 hX (dp1 hd (by decide)) hG113 j_115 (by omega) (t := t) (nn := nn) (a := (x_ns t nn (x_ns t nn a))) (fun M122 hG119 F118 p_120 p_121 => ?_)
              have F123 := FR.c F114 F118 (fun a i z => show a = 1 ∧ 6 ≤ i ∧ i ≤ 11 ∨ a = p ∧ i = 3 ∨ p + 6 ≤ a ∧ a ≤ p + 8 by have z : a = 1 ∧ 6 ≤ i ∧ i ≤ 9 := z; omega)
              refine to_an (pc := 105) rw_41_105 rfl (to_an (pc := 106) rw_41_106 rfl (to_in (pc := 107) rw_41_107 rfl (s_v (pc := 108) rw_41_108 (dp0 hd (by decide)) (ls0 := [.ref p, .ref 1, .int r26, .null, .null, .null, .null, .null, .null]) rfl (Nat.le_of_ble_eq_true rfl) (Nat.le_of_ble_eq_true rfl) rfl (to_rc rfl rfl rfl (g_o hG119 (by rcases hp with rfl | rfl <;> rfl))) rfl ?_)))
              have j_124 := (PLc_f (fun a i z => F_n F118 (show ¬ (a = 1 ∧ 6 ≤ i ∧ i ≤ 9) by omega) rfl) (F_nl F118 (show ¬ (p = 1 ∧ 6 ≤ 4 ∧ 4 ≤ 9) by omega) rfl) (PLc_f (fun a i z => W_n W111 (by omega) rfl) (W_j W111 rfl) (PLc_f (fun a i z => W_n W106 (by omega) rfl) (W_j W106 rfl) (PLc_f (fun a i z => F_n F89 (show ¬ (a = 1 ∧ (i = 10 ∨ i = 11)) by omega) rfl) (F_nl F89 (show ¬ (p = 1 ∧ (4 = 10 ∨ 4 = 11)) by omega) rfl) j_87))))
              have j_125 := (CW_f (fun k hk9 => F_nl F118 (show ¬ ((p + 8) = 1 ∧ 6 ≤ k ∧ k ≤ 9) by omega) rfl) (CW_f (fun k hk9 => W_j W111 rfl) (CW_f (fun k hk9 => W_j W106 rfl) (CW_f (fun k hk9 => F_nl F89 (show ¬ ((p + 8) = 1 ∧ (k = 10 ∨ k = 11)) by omega) rfl) (CW_f (fun k hk9 => F_nl F81 (show ¬ ((p + 8) = 1 ∧ 6 ≤ k ∧ k ≤ 9) by omega) rfl) (CW_f (fun k hk9 => F_nl F27 (show ¬ ((p + 8) < 0) by omega) rfl) (CW_f (fun k hk9 => F_nl F16 (show ¬ ((p + 8) = 1 ∧ 6 ≤ k ∧ k ≤ 9) by omega) rfl) q4)))))))
              have c_126 : M122.2.1 p 3 = (M.2.1 p 3) := (F_n F118 (show ¬ (p = 1 ∧ 6 ≤ 3 ∧ 3 ≤ 9) by omega) (W_n W111 (by omega) c_110))
              have t_127 : (M122.2.1 p 3).toInt = (M.2.1 p 3).toInt := congrArg Int32.toInt c_126
              refine E_42 hX (dp1 hd (by decide)) hG119 hp p_120 (by omega) j_124 j_125 (by omega) (by omega) (by omega) (by omega) (by omega) (p := p) (f := r26) (t := t) (nn := nn) (a := (x_ns t nn (x_ns t nn (x_ns t nn a)))) (sg := sg) (k := k) (nm := (x_val t nn (x_ns t nn (x_ns t nn a)))) (fun r128 M138 hG130 F129 p_131 p_132 p_133 p_134 p_135 p_136 p_137 => ?_)
              have F139 := FR.c F123 F129 (fun a i z => show a = 1 ∧ 6 ≤ i ∧ i ≤ 11 ∨ a = p ∧ i = 3 ∨ p + 6 ≤ a ∧ a ≤ p + 8 by have z : a = 1 ∧ 6 ≤ i ∧ i ≤ 11 ∨ a = p + 8 := z; omega)
              rcases (show r128.toInt = 0 ∨ r128.toInt = 1 by omega) with h140 | h140
              · skip
                have p_141 := p_136 (by omega)
                clear p_136 p_137
                refine b_ine_f (pc := 111) rw_41_111 (A := r128.toInt) rfl (by omega) (to_c (pc := 114) rw_41_114 (x := (0 : Int32)) rfl rfl (s_r1 (pc := 115) rw_41_115 (A := 0) rfl (by decide) ?_))
                have k_142 : (0 : Int32).toInt = 0 := rfl
                have z_143 : x_word t nn sg (x_ns t nn a) k = x_rc t nn sg r26.toInt (x_val t nn (x_ns t nn (x_ns t nn a))) k 6 0 0 (x_ns t nn (x_ns t nn (x_ns t nn a))) := x_word_y (by omega) (by omega)
                exact h (0 : Int32) M138 hG130 F139 (by decide) (by decide) p_133 (fun _ => z_143.trans p_141) (fun z => absurd z (by decide))
              · skip
                have p_144 := p_137 (by omega)
                clear p_136 p_137
                refine b_ine_t (pc := 111) rw_41_111 (A := r128.toInt) rfl (by omega) (to_an (pc := 116) rw_41_116 rfl (to_dupr (pc := 117) rw_41_117 ?_))
                have c_145 : M138.2.1 p 3 = (M.2.1 p 3) := (F_n F129 (show ¬ (p = 1 ∧ 6 ≤ 3 ∧ 3 ≤ 11 ∨ p = p + 8) by omega) c_126)
                refine tt_gI (pc := 118) rw_41_118 (g_o hG130 (by rcases hp with rfl | rfl <;> rfl)) (v := (M.2.1 p 3)) c_145 (to_c (pc := 121) rw_41_121 (x := (1 : Int32)) rfl rfl (s_add (pc := 122) rw_41_122 (A := (M.2.1 p 3).toInt) (B := 1) rfl rfl (by omega) (fun v146 e147 => ?_)))
                have r_148 : (M138.2.1 (p + 6) sg.2.2.1.toNat).toInt = (M85.2.1 1 8).toInt := by rw [show sg.2.2.1.toNat = ((M.2.1 p 3).toInt).toNat by omega, show M138.2.1 (p + 6) ((M.2.1 p 3).toInt).toNat = (M85.2.1 1 8) from (F_n F129 (show ¬ ((p + 6) = 1 ∧ 6 ≤ ((M.2.1 p 3).toInt).toNat ∧ ((M.2.1 p 3).toInt).toNat ≤ 11 ∨ (p + 6) = p + 8) by omega) (F_n F118 (show ¬ ((p + 6) = 1 ∧ 6 ≤ ((M.2.1 p 3).toInt).toNat ∧ ((M.2.1 p 3).toInt).toNat ≤ 9) by omega) (W_n W111 (by omega) (W_e W106))))]
                have r_149 : (M138.2.1 (p + 7) sg.2.2.1.toNat).toInt = r26.toInt := by rw [show sg.2.2.1.toNat = ((M.2.1 p 3).toInt).toNat by omega, show M138.2.1 (p + 7) ((M.2.1 p 3).toInt).toNat = r26 from (F_n F129 (show ¬ ((p + 7) = 1 ∧ 6 ≤ ((M.2.1 p 3).toInt).toNat ∧ ((M.2.1 p 3).toInt).toNat ≤ 11 ∨ (p + 7) = p + 8) by omega) (F_n F118 (show ¬ ((p + 7) = 1 ∧ 6 ≤ ((M.2.1 p 3).toInt).toNat ∧ ((M.2.1 p 3).toInt).toNat ≤ 9) by omega) (W_e W111)))]
                refine s_pI (pc := 123) rw_41_123 hG130 (by rcases hp with rfl | rfl <;> rfl) (fun M151 W150 => ?_)
                have hG152 := g_w hG130 W150 (A := v146.toInt) rfl (lo := 0) (hi := 12) (by rcases hp with rfl | rfl <;> rfl) (by rcases hp with rfl | rfl <;> rfl) (by omega) (by omega)
                have F153 := FR.w F139 W150 (show p = 1 ∧ 6 ≤ 3 ∧ 3 ≤ 11 ∨ p = p ∧ 3 = 3 ∨ p + 6 ≤ p ∧ p ≤ p + 8 by omega)
                refine to_c (pc := 126) rw_41_126 (x := (1 : Int32)) rfl rfl (s_r1 (pc := 127) rw_41_127 (A := 1) rfl (by decide) ?_)
                have k_154 : (1 : Int32).toInt = 1 := rfl
                have j_155 := (CS_f (fun a i z => W_n W150 (by omega) rfl) p_133)
                have c_156 : M151.2.1 1 9 = (M138.2.1 1 9) := (W_n W150 (by omega) rfl)
                have t_157 : (M151.2.1 1 9).toInt = (M138.2.1 1 9).toInt := congrArg Int32.toInt c_156
                have z_158 : x_word t nn sg (x_ns t nn a) k = x_rc t nn sg r26.toInt (x_val t nn (x_ns t nn (x_ns t nn a))) k 6 0 0 (x_ns t nn (x_ns t nn (x_ns t nn a))) := x_word_y (by omega) (by omega)
                have z_159 := (⟨PLc_wp (nm := x_val t nn (x_ns t nn (x_ns t nn a))) (f := r26.toInt) (b := (M138.2.2.1 (p + 8) sg.2.2.1.toNat).toInt) p_134 W150 (by omega) (by omega) (by omega) (r_148.trans (by omega)) (r_149.trans (by omega)), CW_wp p_135 W150 rfl⟩ : PLc2 _ _ _)
                exact h (1 : Int32) M151 hG152 F153 (by decide) (by decide) j_155 (fun z => absurd z (by decide)) (fun _ => by rw [show (M151.2.1 1 9).toInt = (M138.2.1 1 9).toInt by omega, z_158]; rcases p_144 with h9 | h9; exact Or.inl ⟨_, h9, z_159, (by show sg.2.1 + (sg.2.2.1 + 1) = _; omega)⟩; exact Or.inr h9)
    · refine to_an (pc := 27) rw_41_27 rfl (to_c (pc := 28) rw_41_28 (x := (1 : Int32)) rfl rfl (s_v (pc := 29) rw_41_29 (dp0 hd (by decide)) (ls0 := [.ref 1, .int (1 : Int32)]) rfl (Nat.le_of_ble_eq_true rfl) (Nat.le_of_ble_eq_true rfl) rfl (to_rc rfl rfl rfl (g_o hG17 rfl)) rfl (to_an (pc := 0) rw_84_0 rfl (to_in (pc := 1) rw_84_1 rfl (s_pI (pc := 2) rw_84_2 hG17 rfl (fun M161 W160 => ?_))))))
      have hG162 := g_wf hG17 W160 rfl rfl (by decide)
      have F163 := FR.w F21 W160 (show 1 = 1 ∧ 6 ≤ 10 ∧ 10 ≤ 11 ∨ 1 = p ∧ 10 = 3 ∨ p + 6 ≤ 1 ∧ 1 ≤ p + 8 by omega)
      refine to_an (pc := 5) rw_84_5 rfl (to_an (pc := 6) rw_84_6 rfl ?_)
      have c_164 : M161.2.1 1 9 = (M20.2.1 1 9) := (W_n W160 (by decide) rfl)
      refine tt_gI (pc := 7) rw_84_7 (g_o hG162 rfl) (v := (M20.2.1 1 9)) c_164 (s_pI (pc := 10) rw_84_10 hG162 rfl (fun M166 W165 => ?_))
      have hG167 := g_wf hG162 W165 rfl rfl (by decide)
      have F168 := FR.w F163 W165 (show 1 = 1 ∧ 6 ≤ 11 ∧ 11 ≤ 11 ∨ 1 = p ∧ 11 = 3 ∨ p + 6 ≤ 1 ∧ 1 ≤ p + 8 by omega)
      refine to_c (pc := 13) rw_84_13 (x := (0 : Int32)) rfl rfl (s_r1 (pc := 14) rw_84_14 (A := 0) rfl (by decide) (s_r1 (pc := 32) rw_41_32 (A := 0) rfl (by decide) ?_))
      have k_169 : (0 : Int32).toInt = 0 := rfl
      have j_170 := (CS_f (fun a i z => W_n W165 (tg_32 a i z) rfl) (CS_f (fun a i z => W_n W160 (tg_33 a i z) rfl) p_18))
      exact h (0 : Int32) M166 hG167 F168 (by decide) (by decide) j_170 (fun _ => x_word_n (by omega)) (fun z => absurd z (by decide))
  · refine to_an (pc := 9) rw_41_9 rfl (to_c (pc := 10) rw_41_10 (x := (2 : Int32)) rfl rfl (s_v (pc := 11) rw_41_11 (dp0 hd (by decide)) (ls0 := [.ref 1, .int (2 : Int32)]) rfl (Nat.le_of_ble_eq_true rfl) (Nat.le_of_ble_eq_true rfl) rfl (to_rc rfl rfl rfl (g_o hG rfl)) rfl (to_an (pc := 0) rw_84_0 rfl (to_in (pc := 1) rw_84_1 rfl (s_pI (pc := 2) rw_84_2 hG rfl (fun M172 W171 => ?_))))))
    have hG173 := g_wf hG W171 rfl rfl (by decide)
    have F174 := FR.w F0 W171 (show 1 = 1 ∧ 6 ≤ 10 ∧ 10 ≤ 11 ∨ 1 = p ∧ 10 = 3 ∨ p + 6 ≤ 1 ∧ 1 ≤ p + 8 by omega)
    refine to_an (pc := 5) rw_84_5 rfl (to_an (pc := 6) rw_84_6 rfl ?_)
    have c_175 : M172.2.1 1 9 = (M.2.1 1 9) := (W_n W171 (by decide) rfl)
    refine tt_gI (pc := 7) rw_84_7 (g_o hG173 rfl) (v := (M.2.1 1 9)) c_175 (s_pI (pc := 10) rw_84_10 hG173 rfl (fun M177 W176 => ?_))
    have hG178 := g_wf hG173 W176 rfl rfl (by decide)
    have F179 := FR.w F174 W176 (show 1 = 1 ∧ 6 ≤ 11 ∧ 11 ≤ 11 ∨ 1 = p ∧ 11 = 3 ∨ p + 6 ≤ 1 ∧ 1 ≤ p + 8 by omega)
    refine to_c (pc := 13) rw_84_13 (x := (0 : Int32)) rfl rfl (s_r1 (pc := 14) rw_84_14 (A := 0) rfl (by decide) (s_r1 (pc := 14) rw_41_14 (A := 0) rfl (by decide) ?_))
    have k_180 : (0 : Int32).toInt = 0 := rfl
    have j_181 := (CS_f (fun a i z => W_n W176 (tg_32 a i z) rfl) (CS_f (fun a i z => W_n W171 (tg_33 a i z) rfl) q1))
    exact h (0 : Int32) M177 hG178 F179 (by decide) (by decide) j_181 (fun _ => x_word_n (by omega)) (fun z => absurd z (by decide))
