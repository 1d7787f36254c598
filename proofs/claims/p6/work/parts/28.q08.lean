set_option maxRecDepth 4000 in
set_option maxHeartbeats 0 in
theorem E_31 {X : mm_X} {d : Nat} {M : mm_M} {Q : Option Value → mm_M → Prop} {p : Nat} {t : Nat → Int} {nn : Int} {a : Int} {sg : x_S} {k : x_K} {L : Int} (hX : g_X X) (hd : 4 ≤ d) (hG : g_G M) (hp : p = 49 ∨ p = 58) (q1 : CS M t nn) (q2 : (M.2.1 1 9).toInt = a) (q3 : PLc M p sg) (q4 : CW M p sg) (q5 : (M.2.1 p 1).toInt = L) (q6 : 0 ≤ L) (h : ∀ (r : Int32) (M1 : mm_M), g_G M1 → FR (md_l31 p) M M1 → (0 ≤ r.toInt) → (r.toInt ≤ 1) → CS M1 t nn → ((r.toInt = 0 → x_line t nn L sg a k = (Sum.inl ((M1.2.1 1 10).toInt, (M1.2.1 1 11).toInt) : x_Res))) → ((r.toInt = 1 → LOK t nn (x_line t nn L sg a k) k M1 p L sg)) → (r.toInt = 1 → (M1.2.1 1 10).toInt = (M.2.1 1 10).toInt ∧ (M1.2.1 1 11).toInt = (M.2.1 1 11).toInt) → Q (some (.int r)) M1) : mm_T X d 31 0 [.ref p, .ref 1] [] M Q := by
  have F0 : FR (md_l31 p) M M := FR.rf
  have z_1 := q3.2.1
  have z_2 := q3.2.2.1
  have z_3 := q3.2.2.2.1
  have z_4 := q3.1
  have z_5 := z_4.1
  have z_6 := z_4.2.1
  have z_7 := z_4.2.2.1
  have z_8 := z_4.2.2.2.1
  have z_9 := z_4.2.2.2.2.1
  have z_10 := z_4.2.2.2.2.2.1
  have b_11 := g_b hG (a := p) (i := 0) (lo := 10) (hi := 60) (by rcases hp with rfl | rfl <;> rfl) (by rcases hp with rfl | rfl <;> rfl)
  have b_12 := g_b hG (a := p) (i := 2) (lo := 0) (hi := 8) (by rcases hp with rfl | rfl <;> rfl) (by rcases hp with rfl | rfl <;> rfl)
  have b_13 := g_b hG (a := p) (i := 3) (lo := 0) (hi := 12) (by rcases hp with rfl | rfl <;> rfl) (by rcases hp with rfl | rfl <;> rfl)
  have z_14 := x_kx_w (x_val t nn a)
  refine to_an (pc := 0) rw_31_0 rfl (to_c (pc := 1) rw_31_1 (x := (284563040 : Int32)) rfl rfl (s_v (pc := 3) rw_31_3 (dp0 hd (by decide)) (ls0 := [.ref 1, .int (284563040 : Int32)]) rfl (Nat.le_of_ble_eq_true rfl) (Nat.le_of_ble_eq_true rfl) rfl (to_rc rfl rfl rfl (g_o hG rfl)) rfl ?_))
  have k_15 : (284563040 : Int32).toInt = 284563040 := rfl
  refine E_86 hX (dp1 hd (by decide)) hG q1 (by omega) (x := (284563040 : Int32)) (t := t) (nn := nn) (a := a) (fun r16 M23 hG18 F17 p_19 p_20 p_21 p_22 => ?_)
  have F24 := FR.c F0 F17 (fun a i z => show a = 1 ∧ 6 ≤ i ∧ i ≤ 11 ∨ a = p ∧ ¬ i = 1 ∨ p + 1 ≤ a ∧ a ≤ p + 8 by have z : a < 0 := z; omega)
  rcases (show r16.toInt = 0 ∨ r16.toInt = 1 by omega) with h25 | h25
  · skip
    have p_26 := p_22 (by omega)
    clear p_21 p_22
    refine b_ieq_t (pc := 6) rw_31_6 (A := r16.toInt) rfl (by omega) (to_an (pc := 15) rw_31_15 rfl ?_)
    have c_27 : M23.2.1 p 1 = (M.2.1 p 1) := (F_n F17 (show ¬ (p < 0) by omega) rfl)
    refine tt_gI (pc := 16) rw_31_16 (g_o hG18 (by rcases hp with rfl | rfl <;> rfl)) (v := (M.2.1 p 1)) c_27 (b_ile (pc := 19) rw_31_19 (A := (M.2.1 p 1).toInt) rfl (fun h28 => ?_) (fun h28 => ?_))
    · refine to_an (pc := 37) rw_31_37 rfl (tt_gI (pc := 38) rw_31_38 (g_o hG18 (by rcases hp with rfl | rfl <;> rfl)) (v := (M.2.1 p 1)) c_27 (b_ile_t (pc := 41) rw_31_41 (A := (M.2.1 p 1).toInt) rfl (by omega) (to_an (pc := 59) rw_31_59 rfl (to_c (pc := 60) rw_31_60 (x := (1 : Int32)) rfl rfl (s_v (pc := 61) rw_31_61 (dp0 hd (by decide)) (ls0 := [.ref 1, .int (1 : Int32)]) rfl (Nat.le_of_ble_eq_true rfl) (Nat.le_of_ble_eq_true rfl) rfl (to_rc rfl rfl rfl (g_o hG18 rfl)) rfl (to_an (pc := 0) rw_84_0 rfl (to_in (pc := 1) rw_84_1 rfl (s_pI (pc := 2) rw_84_2 hG18 rfl (fun M30 W29 => ?_)))))))))
      have hG31 := g_wf hG18 W29 rfl rfl (by decide)
      have F32 := FR.w F24 W29 (show 1 = 1 ∧ 6 ≤ 10 ∧ 10 ≤ 11 ∨ 1 = p ∧ ¬ 10 = 1 ∨ p + 1 ≤ 1 ∧ 1 ≤ p + 8 by omega)
      refine to_an (pc := 5) rw_84_5 rfl (to_an (pc := 6) rw_84_6 rfl ?_)
      have c_33 : M30.2.1 1 9 = (M.2.1 1 9) := (W_n W29 (by decide) (F_n F17 (show ¬ (1 < 0) by decide) rfl))
      refine tt_gI (pc := 7) rw_84_7 (g_o hG31 rfl) (v := (M.2.1 1 9)) c_33 (s_pI (pc := 10) rw_84_10 hG31 rfl (fun M35 W34 => ?_))
      have hG36 := g_wf hG31 W34 rfl rfl (by decide)
      have F37 := FR.w F32 W34 (show 1 = 1 ∧ 6 ≤ 11 ∧ 11 ≤ 11 ∨ 1 = p ∧ ¬ 11 = 1 ∨ p + 1 ≤ 1 ∧ 1 ≤ p + 8 by omega)
      refine to_c (pc := 13) rw_84_13 (x := (0 : Int32)) rfl rfl (s_r1 (pc := 14) rw_84_14 (A := 0) rfl (by decide) (s_r1 (pc := 64) rw_31_64 (A := 0) rfl (by decide) ?_))
      have k_38 : (0 : Int32).toInt = 0 := rfl
      have j_39 := (CS_f (fun a i z => W_n W34 (tg_32 a i z) rfl) (CS_f (fun a i z => W_n W29 (tg_33 a i z) rfl) (CS_f (tg_28 F17) q1)))
      have c_40 : M35.2.1 1 10 = (1 : Int32) := (W_n W34 (by decide) (W_e W29))
      have k_41 : (1 : Int32).toInt = 1 := rfl
      have t_42 : (M35.2.1 1 10).toInt = (1 : Int32).toInt := congrArg Int32.toInt c_40
      have c_43 : M35.2.1 1 11 = (M.2.1 1 9) := (W_e W34)
      have t_44 : (M35.2.1 1 11).toInt = (M.2.1 1 9).toInt := congrArg Int32.toInt c_43
      exact h (0 : Int32) M35 hG36 F37 (by decide) (by decide) j_39 (fun _ => pinl (by omega) (by omega) ((if g9 : x_kind t nn a = 1 ∧ 0 ≤ x_kx (x_val t nn a) ∧ x_kx (x_val t nn a) ≤ 2 then xl_t1 (by omega) (by omega) else xl_1 g9))) (fun z => by exfalso; omega) (by omega)
    · refine to_an (pc := 22) rw_31_22 rfl (to_c (pc := 23) rw_31_23 (x := (210940032 : Int32)) rfl rfl (s_v (pc := 25) rw_31_25 (dp0 hd (by decide)) (ls0 := [.ref 1, .int (210940032 : Int32)]) rfl (Nat.le_of_ble_eq_true rfl) (Nat.le_of_ble_eq_true rfl) rfl (to_rc rfl rfl rfl (g_o hG18 rfl)) rfl ?_))
      have k_45 : (210940032 : Int32).toInt = 210940032 := rfl
      have j_46 := (CS_f (tg_28 F17) q1)
      have c_47 : M23.2.1 1 9 = (M.2.1 1 9) := (F_n F17 (show ¬ (1 < 0) by decide) rfl)
      have t_48 : (M23.2.1 1 9).toInt = (M.2.1 1 9).toInt := congrArg Int32.toInt c_47
      refine E_86 hX (dp1 hd (by decide)) hG18 j_46 (by omega) (x := (210940032 : Int32)) (t := t) (nn := nn) (a := a) (fun r49 M56 hG51 F50 p_52 p_53 p_54 p_55 => ?_)
      have F57 := FR.c F24 F50 (fun a i z => show a = 1 ∧ 6 ≤ i ∧ i ≤ 11 ∨ a = p ∧ ¬ i = 1 ∨ p + 1 ≤ a ∧ a ≤ p + 8 by have z : a < 0 := z; omega)
      rcases (show r49.toInt = 0 ∨ r49.toInt = 1 by omega) with h58 | h58
      · skip
        have p_59 := p_55 (by omega)
        clear p_54 p_55
        refine b_ieq_t (pc := 28) rw_31_28 (A := r49.toInt) rfl (by omega) (to_an (pc := 37) rw_31_37 rfl ?_)
        have c_60 : M56.2.1 p 1 = (M.2.1 p 1) := (F_n F50 (show ¬ (p < 0) by omega) c_27)
        refine tt_gI (pc := 38) rw_31_38 (g_o hG51 (by rcases hp with rfl | rfl <;> rfl)) (v := (M.2.1 p 1)) c_60 (b_ile_f (pc := 41) rw_31_41 (A := (M.2.1 p 1).toInt) rfl (by omega) (to_an (pc := 44) rw_31_44 rfl (to_c (pc := 45) rw_31_45 (x := (788074496 : Int32)) rfl rfl (s_v (pc := 47) rw_31_47 (dp0 hd (by decide)) (ls0 := [.ref 1, .int (788074496 : Int32)]) rfl (Nat.le_of_ble_eq_true rfl) (Nat.le_of_ble_eq_true rfl) rfl (to_rc rfl rfl rfl (g_o hG51 rfl)) rfl ?_))))
        have k_61 : (788074496 : Int32).toInt = 788074496 := rfl
        have j_62 := (CS_f (tg_28 F50) j_46)
        have c_63 : M56.2.1 1 9 = (M.2.1 1 9) := (F_n F50 (show ¬ (1 < 0) by decide) c_47)
        have t_64 : (M56.2.1 1 9).toInt = (M.2.1 1 9).toInt := congrArg Int32.toInt c_63
        refine E_86 hX (dp1 hd (by decide)) hG51 j_62 (by omega) (x := (788074496 : Int32)) (t := t) (nn := nn) (a := a) (fun r65 M72 hG67 F66 p_68 p_69 p_70 p_71 => ?_)
        have F73 := FR.c F57 F66 (fun a i z => show a = 1 ∧ 6 ≤ i ∧ i ≤ 11 ∨ a = p ∧ ¬ i = 1 ∨ p + 1 ≤ a ∧ a ≤ p + 8 by have z : a < 0 := z; omega)
        rcases (show r65.toInt = 0 ∨ r65.toInt = 1 by omega) with h74 | h74
        · skip
          have p_75 := p_71 (by omega)
          clear p_70 p_71
          refine b_ieq_t (pc := 50) rw_31_50 (A := r65.toInt) rfl (by omega) (to_an (pc := 59) rw_31_59 rfl (to_c (pc := 60) rw_31_60 (x := (1 : Int32)) rfl rfl (s_v (pc := 61) rw_31_61 (dp0 hd (by decide)) (ls0 := [.ref 1, .int (1 : Int32)]) rfl (Nat.le_of_ble_eq_true rfl) (Nat.le_of_ble_eq_true rfl) rfl (to_rc rfl rfl rfl (g_o hG67 rfl)) rfl (to_an (pc := 0) rw_84_0 rfl (to_in (pc := 1) rw_84_1 rfl (s_pI (pc := 2) rw_84_2 hG67 rfl (fun M77 W76 => ?_)))))))
          have hG78 := g_wf hG67 W76 rfl rfl (by decide)
          have F79 := FR.w F73 W76 (show 1 = 1 ∧ 6 ≤ 10 ∧ 10 ≤ 11 ∨ 1 = p ∧ ¬ 10 = 1 ∨ p + 1 ≤ 1 ∧ 1 ≤ p + 8 by omega)
          refine to_an (pc := 5) rw_84_5 rfl (to_an (pc := 6) rw_84_6 rfl ?_)
          have c_80 : M77.2.1 1 9 = (M.2.1 1 9) := (W_n W76 (by decide) (F_n F66 (show ¬ (1 < 0) by decide) c_63))
          refine tt_gI (pc := 7) rw_84_7 (g_o hG78 rfl) (v := (M.2.1 1 9)) c_80 (s_pI (pc := 10) rw_84_10 hG78 rfl (fun M82 W81 => ?_))
          have hG83 := g_wf hG78 W81 rfl rfl (by decide)
          have F84 := FR.w F79 W81 (show 1 = 1 ∧ 6 ≤ 11 ∧ 11 ≤ 11 ∨ 1 = p ∧ ¬ 11 = 1 ∨ p + 1 ≤ 1 ∧ 1 ≤ p + 8 by omega)
          refine to_c (pc := 13) rw_84_13 (x := (0 : Int32)) rfl rfl (s_r1 (pc := 14) rw_84_14 (A := 0) rfl (by decide) (s_r1 (pc := 64) rw_31_64 (A := 0) rfl (by decide) ?_))
          have k_85 : (0 : Int32).toInt = 0 := rfl
          have j_86 := (CS_f (fun a i z => W_n W81 (tg_32 a i z) rfl) (CS_f (fun a i z => W_n W76 (tg_33 a i z) rfl) (CS_f (tg_28 F66) j_62)))
          have c_87 : M82.2.1 1 10 = (1 : Int32) := (W_n W81 (by decide) (W_e W76))
          have k_88 : (1 : Int32).toInt = 1 := rfl
          have t_89 : (M82.2.1 1 10).toInt = (1 : Int32).toInt := congrArg Int32.toInt c_87
          have c_90 : M82.2.1 1 11 = (M.2.1 1 9) := (W_e W81)
          have t_91 : (M82.2.1 1 11).toInt = (M.2.1 1 9).toInt := congrArg Int32.toInt c_90
          exact h (0 : Int32) M82 hG83 F84 (by decide) (by decide) j_86 (fun _ => pinl (by omega) (by omega) ((if g9 : x_kind t nn a = 1 ∧ 0 ≤ x_kx (x_val t nn a) ∧ x_kx (x_val t nn a) ≤ 2 then xl_t1 (by omega) (by omega) else xl_1 g9))) (fun z => by exfalso; omega) (by omega)
        · skip
          have p_92 := p_70 (by omega)
          clear p_70 p_71
          refine b_ieq_f (pc := 50) rw_31_50 (A := r65.toInt) rfl (by omega) (to_an (pc := 53) rw_31_53 rfl (to_an (pc := 54) rw_31_54 rfl (s_v (pc := 55) rw_31_55 (dp0 hd (by decide)) (ls0 := [.ref p, .ref 1, .null]) rfl (Nat.le_of_ble_eq_true rfl) (Nat.le_of_ble_eq_true rfl) rfl (to_rc rfl rfl rfl (g_o hG67 (by rcases hp with rfl | rfl <;> rfl))) rfl ?_)))
          have c_93 : M72.2.1 1 10 = (M.2.1 1 10) := (F_n F66 (show ¬ (1 < 0) by decide) (F_n F50 (show ¬ (1 < 0) by decide) (F_n F17 (show ¬ (1 < 0) by decide) rfl)))
          have t_94 : (M72.2.1 1 10).toInt = (M.2.1 1 10).toInt := congrArg Int32.toInt c_93
          have c_95 : M72.2.1 1 11 = (M.2.1 1 11) := (F_n F66 (show ¬ (1 < 0) by decide) (F_n F50 (show ¬ (1 < 0) by decide) (F_n F17 (show ¬ (1 < 0) by decide) rfl)))
          have t_96 : (M72.2.1 1 11).toInt = (M.2.1 1 11).toInt := congrArg Int32.toInt c_95
          have j_97 := (CS_f (tg_28 F66) j_62)
          have c_98 : M72.2.1 1 9 = (M.2.1 1 9) := (F_n F66 (show ¬ (1 < 0) by decide) c_63)
          have t_99 : (M72.2.1 1 9).toInt = (M.2.1 1 9).toInt := congrArg Int32.toInt c_98
          have j_100 := (PLc_f (fun a i z => F_n F66 (show ¬ (a < 0) by omega) rfl) (F_nl F66 (show ¬ (p < 0) by omega) rfl) (PLc_f (fun a i z => F_n F50 (show ¬ (a < 0) by omega) rfl) (F_nl F50 (show ¬ (p < 0) by omega) rfl) (PLc_f (fun a i z => F_n F17 (show ¬ (a < 0) by omega) rfl) (F_nl F17 (show ¬ (p < 0) by omega) rfl) q3)))
          have j_101 := (CW_f (fun k hk9 => F_nl F66 (show ¬ ((p + 8) < 0) by omega) rfl) (CW_f (fun k hk9 => F_nl F50 (show ¬ ((p + 8) < 0) by omega) rfl) (CW_f (fun k hk9 => F_nl F17 (show ¬ ((p + 8) < 0) by omega) rfl) q4)))
          refine E_41 hX (dp1 hd (by decide)) hG67 hp j_97 (by omega) j_100 j_101 (p := p) (t := t) (nn := nn) (a := a) (sg := sg) (k := k) (fun r102 M111 hG104 F103 p_105 p_106 p_107 p_108 p_109 p_110 => ?_)
          have F112 := FR.c F73 F103 (fun a i z => show a = 1 ∧ 6 ≤ i ∧ i ≤ 11 ∨ a = p ∧ ¬ i = 1 ∨ p + 1 ≤ a ∧ a ≤ p + 8 by have z : a = 1 ∧ 6 ≤ i ∧ i ≤ 11 ∨ a = p ∧ i = 3 ∨ p + 6 ≤ a ∧ a ≤ p + 8 := z; omega)
          rcases (show r102.toInt = 0 ∨ r102.toInt = 1 by omega) with h113 | h113
          · skip
            have p_114 := p_108 (by omega)
            clear p_108 p_109 p_110
            refine s_r1 (pc := 58) rw_31_58 (A := r102.toInt) rfl (by omega) ?_
            exact h r102 M111 hG104 F112 (by omega) (by omega) p_107 (fun z => (x_line_w (by omega) (by omega) (by omega)).trans p_114) (fun z => by exfalso; omega) (by omega)
          · skip
            have p_115 := p_109 (by omega)
            have p_116 := p_110 (by omega)
            clear p_108 p_109 p_110
            refine s_r1 (pc := 58) rw_31_58 (A := r102.toInt) rfl (by omega) ?_
            have z_117 : x_line t nn L sg a k = x_word t nn sg a (x_ns t nn a) k := by clear p_115; exact x_line_w (by omega) (by omega) (by omega)
            have z_118 : ¬ L = 0 := by clear p_115; omega
            exact h r102 M111 hG104 F112 (by omega) (by omega) p_107 (fun z => by exfalso; omega) (fun _ => p_115.elim (fun h8 => Or.inl (Exists.elim h8 (fun s2 h9 => ⟨s2, z_117.trans h9.1, h9.2.1, fun z => absurd z z_118, fun _ => h9.2.2⟩))) (fun h8 => Or.inr ⟨z_117.trans h8.1, h8.2⟩)) (by omega)
      · skip
        have p_119 := p_54 (by omega)
        clear p_54 p_55
        refine b_ieq_f (pc := 28) rw_31_28 (A := r49.toInt) rfl (by omega) (to_an (pc := 31) rw_31_31 rfl (to_an (pc := 32) rw_31_32 rfl (s_v (pc := 33) rw_31_33 (dp0 hd (by decide)) (ls0 := [.ref p, .ref 1, .null, .null]) rfl (Nat.le_of_ble_eq_true rfl) (Nat.le_of_ble_eq_true rfl) rfl (to_rc rfl rfl rfl (g_o hG51 (by rcases hp with rfl | rfl <;> rfl))) rfl ?_)))
        have c_120 : M56.2.1 1 10 = (M.2.1 1 10) := (F_n F50 (show ¬ (1 < 0) by decide) (F_n F17 (show ¬ (1 < 0) by decide) rfl))
        have t_121 : (M56.2.1 1 10).toInt = (M.2.1 1 10).toInt := congrArg Int32.toInt c_120
        have c_122 : M56.2.1 1 11 = (M.2.1 1 11) := (F_n F50 (show ¬ (1 < 0) by decide) (F_n F17 (show ¬ (1 < 0) by decide) rfl))
        have t_123 : (M56.2.1 1 11).toInt = (M.2.1 1 11).toInt := congrArg Int32.toInt c_122
        have j_124 := (CS_f (tg_28 F50) j_46)
        have c_125 : M56.2.1 1 9 = (M.2.1 1 9) := (F_n F50 (show ¬ (1 < 0) by decide) c_47)
        have t_126 : (M56.2.1 1 9).toInt = (M.2.1 1 9).toInt := congrArg Int32.toInt c_125
        have j_127 := (PLc_f (fun a i z => F_n F50 (show ¬ (a < 0) by omega) rfl) (F_nl F50 (show ¬ (p < 0) by omega) rfl) (PLc_f (fun a i z => F_n F17 (show ¬ (a < 0) by omega) rfl) (F_nl F17 (show ¬ (p < 0) by omega) rfl) q3))
        have j_128 := (CW_f (fun k hk9 => F_nl F50 (show ¬ ((p + 8) < 0) by omega) rfl) (CW_f (fun k hk9 => F_nl F17 (show ¬ ((p + 8) < 0) by omega) rfl) q4))
        refine E_33 hX (dp1 hd (by decide)) hG51 hp j_124 (by omega) j_127 j_128 (p := p) (t := t) (nn := nn) (a := a) (sg := sg) (k := k) (fun r129 M138 hG131 F130 p_132 p_133 p_134 p_135 p_136 p_137 => ?_)
        have F139 := FR.c F57 F130 (fun a i z => show a = 1 ∧ 6 ≤ i ∧ i ≤ 11 ∨ a = p ∧ ¬ i = 1 ∨ p + 1 ≤ a ∧ a ≤ p + 8 by have z : a = 1 ∧ 6 ≤ i ∧ i ≤ 11 ∨ a = p ∧ 2 ≤ i ∨ p + 1 ≤ a ∧ a ≤ p + 5 := z; omega)
        rcases (show r129.toInt = 0 ∨ r129.toInt = 1 by omega) with h140 | h140
        · skip
          have p_141 := p_135 (by omega)
          clear p_135 p_136 p_137
          refine s_r1 (pc := 36) rw_31_36 (A := r129.toInt) rfl (by omega) ?_
          exact h r129 M138 hG131 F139 (by omega) (by omega) p_134 (fun z => (x_line_f (by omega) (by omega) (by omega)).trans p_141) (fun z => by exfalso; omega) (by omega)
        · skip
          have p_142 := p_136 (by omega)
          have p_143 := p_137 (by omega)
          clear p_135 p_136 p_137
          refine s_r1 (pc := 36) rw_31_36 (A := r129.toInt) rfl (by omega) ?_
          have z_144 : x_line t nn L sg a k = x_field t nn sg a (x_ns t nn a) k := by clear p_142; exact x_line_f (by omega) (by omega) (by omega)
          have z_145 : ¬ L = 0 := by clear p_142; omega
          exact h r129 M138 hG131 F139 (by omega) (by omega) p_134 (fun z => by exfalso; omega) (fun _ => Or.inl (Exists.elim p_142 (fun s2 h9 => ⟨s2, z_144.trans h9.1, h9.2.1, fun z => absurd z z_145, fun _ => h9.2.2⟩))) (by omega)
  · skip
    have p_146 := p_21 (by omega)
    clear p_21 p_22
    refine b_ieq_f (pc := 6) rw_31_6 (A := r16.toInt) rfl (by omega) (to_an (pc := 9) rw_31_9 rfl (to_an (pc := 10) rw_31_10 rfl (s_v (pc := 11) rw_31_11 (dp0 hd (by decide)) (ls0 := [.ref p, .ref 1]) rfl (Nat.le_of_ble_eq_true rfl) (Nat.le_of_ble_eq_true rfl) rfl (to_rc rfl rfl rfl (g_o hG18 (by rcases hp with rfl | rfl <;> rfl))) rfl (to_an (pc := 0) rw_32_0 rfl ?_))))
    have c_147 : M23.2.1 p 1 = (M.2.1 p 1) := (F_n F17 (show ¬ (p < 0) by omega) rfl)
    refine tt_gI (pc := 1) rw_32_1 (g_o hG18 (by rcases hp with rfl | rfl <;> rfl)) (v := (M.2.1 p 1)) c_147 (b_ile (pc := 4) rw_32_4 (A := (M.2.1 p 1).toInt) rfl (fun h148 => ?_) (fun h148 => ?_))
    · refine to_an (pc := 13) rw_32_13 rfl (s_v (pc := 14) rw_32_14 (dp1 hd (by decide)) (ls0 := [.ref 1]) rfl (Nat.le_of_ble_eq_true rfl) (Nat.le_of_ble_eq_true rfl) rfl (to_rc rfl rfl rfl (g_o hG18 rfl)) rfl ?_)
      have j_149 := (CS_f (tg_28 F17) q1)
      have c_150 : M23.2.1 1 9 = (M.2.1 1 9) := (F_n F17 (show ¬ (1 < 0) by decide) rfl)
      have t_151 : (M23.2.1 1 9).toInt = (M.2.1 1 9).toInt := congrArg Int32.toInt c_150
      refine E_83 hX (dp2 hd (by decide)) hG18 j_149 (by omega) (t := t) (nn := nn) (a := a) (fun M156 hG153 F152 p_154 p_155 => ?_)
      have F157 := FR.c F24 F152 (fun a i z => show a = 1 ∧ 6 ≤ i ∧ i ≤ 11 ∨ a = p ∧ ¬ i = 1 ∨ p + 1 ≤ a ∧ a ≤ p + 8 by have z : a = 1 ∧ 6 ≤ i ∧ i ≤ 9 := z; omega)
      refine to_an (pc := 17) rw_32_17 rfl (to_c (pc := 18) rw_32_18 (x := (10 : Int32)) rfl rfl (to_c (pc := 20) rw_32_20 (x := (60 : Int32)) rfl rfl (s_v (pc := 22) rw_32_22 (dp1 hd (by decide)) (ls0 := [.ref 1, .int (10 : Int32), .int (60 : Int32)]) rfl (Nat.le_of_ble_eq_true rfl) (Nat.le_of_ble_eq_true rfl) rfl (to_rc rfl rfl rfl (g_o hG153 rfl)) rfl ?_)))
      have k_158 : (10 : Int32).toInt = 10 := rfl
      have k_159 : (60 : Int32).toInt = 60 := rfl
      have c_160 : M156.2.1 1 10 = (M.2.1 1 10) := (F_n F152 (show ¬ (1 = 1 ∧ 6 ≤ 10 ∧ 10 ≤ 9) by decide) (F_n F17 (show ¬ (1 < 0) by decide) rfl))
      have t_161 : (M156.2.1 1 10).toInt = (M.2.1 1 10).toInt := congrArg Int32.toInt c_160
      have c_162 : M156.2.1 1 11 = (M.2.1 1 11) := (F_n F152 (show ¬ (1 = 1 ∧ 6 ≤ 11 ∧ 11 ≤ 9) by decide) (F_n F17 (show ¬ (1 < 0) by decide) rfl))
      have t_163 : (M156.2.1 1 11).toInt = (M.2.1 1 11).toInt := congrArg Int32.toInt c_162
      refine E_88g hX (dp2 hd (by decide)) hG153 p_154 (by omega) (l := (10 : Int32)) (m := (60 : Int32)) (t := t) (nn := nn) (a := (x_ns t nn a)) (fun r164 M174 hG166 F165 p_167 p_168 p_169 p_170 p_171 p_172 p_173 => ?_)
      have F175 := FR.c F157 F165 (fun a i z => show a = 1 ∧ 6 ≤ i ∧ i ≤ 11 ∨ a = p ∧ ¬ i = 1 ∨ p + 1 ≤ a ∧ a ≤ p + 8 by have z : a = 1 ∧ (i = 10 ∨ i = 11) := z; omega)
      rcases (show r164.toInt = 0 ∨ r164.toInt = 1 by omega) with h176 | h176
      · skip
        have p_177 := p_170 (by omega)
        have p_178 := p_171 (by omega)
        have p_179 := p_172 (by omega)
        clear p_169 p_170 p_171 p_172 p_173
        have z_180 := x_val_b (t := t) (nn := nn) (a := (x_ns t nn a))
        refine b_ine_f (pc := 25) rw_32_25 (A := r164.toInt) rfl (by omega) (to_c (pc := 28) rw_32_28 (x := (0 : Int32)) rfl rfl (s_r1 (pc := 29) rw_32_29 (A := 0) rfl (by decide) (s_r1 (pc := 14) rw_31_14 (A := 0) rfl (by decide) ?_)))
        have k_181 : (0 : Int32).toInt = 0 := rfl
        have j_182 := (CS_f (tg_34 F165) p_154)
        exact h (0 : Int32) M174 hG166 F175 (by decide) (by decide) j_182 (fun _ => (if g9 : x_kind t nn (x_ns t nn a) = 3 then pinl (by have z9 := p_179.1 g9; omega) (by omega) ((x_line_h (by omega) (by omega) (by omega)).trans (xh_2 g9 (by omega))) else pinl (by have z9 := p_179.2 g9; omega) (by omega) ((x_line_h (by omega) (by omega) (by omega)).trans (xh_1 g9)))) (fun z => by exfalso; omega) (by omega)
      · skip
        have p_183 := p_169 (by omega)
        have p_184 := p_173 (by omega)
        clear p_169 p_170 p_171 p_172 p_173
        have c_185 : M174.2.1 1 8 = (M156.2.1 1 8) := (F_n F165 (show ¬ (1 = 1 ∧ (8 = 10 ∨ 8 = 11)) by decide) rfl)
        have z_186 := x_val_b (t := t) (nn := nn) (a := (x_ns t nn a)) (by omega)
        refine b_ine_t (pc := 25) rw_32_25 (A := r164.toInt) rfl (by omega) (to_an (pc := 30) rw_32_30 rfl (to_an (pc := 31) rw_32_31 rfl (tt_gI (pc := 32) rw_32_32 (g_o hG166 rfl) (v := (M156.2.1 1 8)) c_185 ?_)))
        have j_187 := (PLc_f (fun a i z => F_n F165 (show ¬ (a = 1 ∧ (i = 10 ∨ i = 11)) by omega) rfl) (F_nl F165 (show ¬ (p = 1 ∧ (4 = 10 ∨ 4 = 11)) by omega) rfl) (PLc_f (fun a i z => F_n F152 (show ¬ (a = 1 ∧ 6 ≤ i ∧ i ≤ 9) by omega) rfl) (F_nl F152 (show ¬ (p = 1 ∧ 6 ≤ 4 ∧ 4 ≤ 9) by omega) rfl) (PLc_f (fun a i z => F_n F17 (show ¬ (a < 0) by omega) rfl) (F_nl F17 (show ¬ (p < 0) by omega) rfl) q3)))
        refine s_pI (pc := 35) rw_32_35 hG166 (by rcases hp with rfl | rfl <;> rfl) (fun M189 W188 => ?_)
        have hG190 := g_w hG166 W188 (A := (M156.2.1 1 8).toInt) rfl (lo := 10) (hi := 60) (by rcases hp with rfl | rfl <;> rfl) (by rcases hp with rfl | rfl <;> rfl) (by omega) (by omega)
        have F191 := FR.w F175 W188 (show p = 1 ∧ 6 ≤ 0 ∧ 0 ≤ 11 ∨ p = p ∧ ¬ 0 = 1 ∨ p + 1 ≤ p ∧ p ≤ p + 8 by omega)
        have z_192 := PLc_h (w := x_val t nn (x_ns t nn a)) j_187 W188 (by omega) (by omega)
        refine to_an (pc := 38) rw_32_38 rfl (s_v (pc := 39) rw_32_39 (dp1 hd (by decide)) (ls0 := [.ref 1]) rfl (Nat.le_of_ble_eq_true rfl) (Nat.le_of_ble_eq_true rfl) rfl (to_rc rfl rfl rfl (g_o hG190 rfl)) rfl ?_)
        have j_193 := (CS_f (fun a i z => W_n W188 (by omega) rfl) (CS_f (tg_34 F165) p_154))
        have c_194 : M189.2.1 1 9 = (M156.2.1 1 9) := (W_n W188 (by omega) (F_n F165 (show ¬ (1 = 1 ∧ (9 = 10 ∨ 9 = 11)) by decide) rfl))
        have t_195 : (M189.2.1 1 9).toInt = (M156.2.1 1 9).toInt := congrArg Int32.toInt c_194
        refine E_83 hX (dp2 hd (by decide)) hG190 j_193 (by omega) (t := t) (nn := nn) (a := (x_ns t nn a)) (fun M200 hG197 F196 p_198 p_199 => ?_)
        have F201 := FR.c F191 F196 (fun a i z => show a = 1 ∧ 6 ≤ i ∧ i ≤ 11 ∨ a = p ∧ ¬ i = 1 ∨ p + 1 ≤ a ∧ a ≤ p + 8 by have z : a = 1 ∧ 6 ≤ i ∧ i ≤ 9 := z; omega)
        refine to_c (pc := 42) rw_32_42 (x := (1 : Int32)) rfl rfl (s_r1 (pc := 43) rw_32_43 (A := 1) rfl (by decide) (s_r1 (pc := 14) rw_31_14 (A := 1) rfl (by decide) ?_))
        have k_202 : (1 : Int32).toInt = 1 := rfl
        have j_203 := (PLc_f (fun a i z => F_n F196 (show ¬ (a = 1 ∧ 6 ≤ i ∧ i ≤ 9) by omega) rfl) (F_nl F196 (show ¬ (p = 1 ∧ 6 ≤ 4 ∧ 4 ≤ 9) by omega) rfl) z_192)
        have j_204 := (CW_f (fun k hk9 => F_nl F196 (show ¬ ((p + 8) = 1 ∧ 6 ≤ k ∧ k ≤ 9) by omega) rfl) (CW_f (fun k hk9 => W_j W188 rfl) (CW_f (fun k hk9 => F_nl F165 (show ¬ ((p + 8) = 1 ∧ (k = 10 ∨ k = 11)) by omega) rfl) (CW_f (fun k hk9 => F_nl F152 (show ¬ ((p + 8) = 1 ∧ 6 ≤ k ∧ k ≤ 9) by omega) rfl) (CW_f (fun k hk9 => F_nl F17 (show ¬ ((p + 8) < 0) by omega) rfl) q4)))))
        have c_205 : M200.2.1 1 10 = (M174.2.1 1 10) := (F_n F196 (show ¬ (1 = 1 ∧ 6 ≤ 10 ∧ 10 ≤ 9) by decide) (W_n W188 (by omega) rfl))
        have t_206 : (M200.2.1 1 10).toInt = (M174.2.1 1 10).toInt := congrArg Int32.toInt c_205
        have c_207 : M200.2.1 1 11 = (M174.2.1 1 11) := (F_n F196 (show ¬ (1 = 1 ∧ 6 ≤ 11 ∧ 11 ≤ 9) by decide) (W_n W188 (by omega) rfl))
        have t_208 : (M200.2.1 1 11).toInt = (M174.2.1 1 11).toInt := congrArg Int32.toInt c_207
        exact h (1 : Int32) M200 hG197 F201 (by decide) (by decide) p_198 (fun z => absurd z (by decide)) (fun _ => Or.inl ⟨(x_val t nn (x_ns t nn a), sg.2), (by rw [show (M200.2.1 1 9).toInt = (x_ns t nn (x_ns t nn a)) by omega]; exact (x_line_h (by omega) (by omega) (by omega)).trans (x_holes_y (by omega))), ⟨j_203, j_204⟩, fun _ => rfl, fun z => by exfalso; omega⟩) (by omega)
    · refine to_an (pc := 7) rw_32_7 rfl (to_c (pc := 8) rw_32_8 (x := (3 : Int32)) rfl rfl (s_v (pc := 9) rw_32_9 (dp1 hd (by decide)) (ls0 := [.ref 1, .int (3 : Int32)]) rfl (Nat.le_of_ble_eq_true rfl) (Nat.le_of_ble_eq_true rfl) rfl (to_rc rfl rfl rfl (g_o hG18 rfl)) rfl (to_an (pc := 0) rw_84_0 rfl (to_in (pc := 1) rw_84_1 rfl (s_pI (pc := 2) rw_84_2 hG18 rfl (fun M210 W209 => ?_))))))
      have hG211 := g_wf hG18 W209 rfl rfl (by decide)
      have F212 := FR.w F24 W209 (show 1 = 1 ∧ 6 ≤ 10 ∧ 10 ≤ 11 ∨ 1 = p ∧ ¬ 10 = 1 ∨ p + 1 ≤ 1 ∧ 1 ≤ p + 8 by omega)
      refine to_an (pc := 5) rw_84_5 rfl (to_an (pc := 6) rw_84_6 rfl ?_)
      have c_213 : M210.2.1 1 9 = (M.2.1 1 9) := (W_n W209 (by decide) (F_n F17 (show ¬ (1 < 0) by decide) rfl))
      refine tt_gI (pc := 7) rw_84_7 (g_o hG211 rfl) (v := (M.2.1 1 9)) c_213 (s_pI (pc := 10) rw_84_10 hG211 rfl (fun M215 W214 => ?_))
      have hG216 := g_wf hG211 W214 rfl rfl (by decide)
      have F217 := FR.w F212 W214 (show 1 = 1 ∧ 6 ≤ 11 ∧ 11 ≤ 11 ∨ 1 = p ∧ ¬ 11 = 1 ∨ p + 1 ≤ 1 ∧ 1 ≤ p + 8 by omega)
      refine to_c (pc := 13) rw_84_13 (x := (0 : Int32)) rfl rfl (s_r1 (pc := 14) rw_84_14 (A := 0) rfl (by decide) (s_r1 (pc := 12) rw_32_12 (A := 0) rfl (by decide) (s_r1 (pc := 14) rw_31_14 (A := 0) rfl (by decide) ?_)))
      have k_218 : (0 : Int32).toInt = 0 := rfl
      have j_219 := (CS_f (fun a i z => W_n W214 (tg_32 a i z) rfl) (CS_f (fun a i z => W_n W209 (tg_33 a i z) rfl) (CS_f (tg_28 F17) q1)))
      have c_220 : M215.2.1 1 10 = (3 : Int32) := (W_n W214 (by decide) (W_e W209))
      have k_221 : (3 : Int32).toInt = 3 := rfl
      have t_222 : (M215.2.1 1 10).toInt = (3 : Int32).toInt := congrArg Int32.toInt c_220
      have c_223 : M215.2.1 1 11 = (M.2.1 1 9) := (W_e W214)
      have t_224 : (M215.2.1 1 11).toInt = (M.2.1 1 9).toInt := congrArg Int32.toInt c_223
      exact h (0 : Int32) M215 hG216 F217 (by decide) (by decide) j_219 (fun _ => pinl (by omega) (by omega) (xl_t3 (by omega) (by omega))) (fun z => by exfalso; omega) (by omega)
set_option maxRecDepth 4000 in
set_option maxHeartbeats 0 in
theorem U_30_0 {X : mm_X} {d : Nat} {M : mm_M} {Q : Option Value → mm_M → Prop} {p : Nat} {t : Nat → Int} {nn : Int} {a : Int} (hX : g_X X) (hd : 5 ≤ d) (hp : p = 49 ∨ p = 58) (q1 : CS M t nn) (q2 : (M.2.1 1 9).toInt = a) (h : ∀ (r : Int32) (M1 : mm_M), g_G M1 → FR (md_r30 p) M M1 → (0 ≤ r.toInt) → (r.toInt ≤ 1) → CS M1 t nn → (r.toInt = 1 → 0 ≤ (M1.2.1 p 1).toInt) → ((r.toInt = 0 → x_plan t nn 23 0 x_s0 a = (Sum.inl ((M1.2.1 1 10).toInt, (M1.2.1 1 11).toInt) : x_Res))) → ((r.toInt = 1 → ROK (x_plan t nn 23 0 x_s0 a) M1 p)) → (r.toInt = 1 → (M1.2.1 1 10).toInt = (M.2.1 1 10).toInt ∧ (M1.2.1 1 11).toInt = (M.2.1 1 11).toInt) → Q (some (.int r)) M1) : ∀ nn9 : Nat, (∀ (N : mm_M) (x2 : Int32), g_G N → FR (md_r30 p) M N → (0 ≤ x2.toInt) → (x2.toInt ≤ 22) → ((N.2.1 p 1).toInt = x2.toInt) → (0 ≤ (N.2.1 p 1).toInt) → ((N.2.1 p 1).toInt ≤ 22) → (CS N t nn) → (IVc t nn (x_plan t nn 23 0 x_s0 a) N p x2.toInt (N.2.1 1 9).toInt) → ((N.2.1 1 10).toInt = (M.2.1 1 10).toInt ∧ (N.2.1 1 11).toInt = (M.2.1 1 11).toInt) → 22 - x2.toInt < (nn9 : Int) → mm_T X d 30 28 [.ref p, .ref 1, .int x2] [] N Q) := by
  intro nn9
  induction nn9 with
  | zero =>
    intro N x2 hG F0 g1 g2 g3 g4 g5 g6 g7 g8 hm
    exfalso; omega
  | succ nn9 ih =>
    intro N x2 hG F0 g1 g2 g3 g4 g5 g6 g7 g8 hm
    obtain ⟨sg, i_1, i_2, i_3, i_4⟩ := g7
    have i_5 : x2.toInt ≤ 21 := by have q1 : sg.2.1 ≤ 8 := i_1.1.1.2.2.2.1; have q2 : sg.2.2.1 ≤ 12 := i_1.1.1.2.2.2.2.2.1; rcases (show x2.toInt = 0 ∨ 0 < x2.toInt by omega) with z | z; omega; have := i_4 z; omega
    have z_1 := i_1.1.2.1
    have z_2 := i_1.1.2.2.1
    have z_3 := i_1.1.2.2.2.1
    have z_4 := i_1.1.1
    have z_5 := z_4.1
    have z_6 := z_4.2.1
    have z_7 := z_4.2.2.1
    have z_8 := z_4.2.2.2.1
    have z_9 := z_4.2.2.2.2.1
    have z_10 := z_4.2.2.2.2.2.1
    have b_11 := g_b hG (a := p) (i := 2) (lo := 0) (hi := 8) (by rcases hp with rfl | rfl <;> rfl) (by rcases hp with rfl | rfl <;> rfl)
    have b_12 := g_b hG (a := p) (i := 3) (lo := 0) (hi := 12) (by rcases hp with rfl | rfl <;> rfl) (by rcases hp with rfl | rfl <;> rfl)
    refine to_in (pc := 28) rw_30_28 rfl (to_c (pc := 29) rw_30_29 (x := (21 : Int32)) rfl rfl (b_cgt (pc := 31) rw_30_31 (A := x2.toInt) (B := 21) rfl rfl (fun h13 => ?_) (fun h13 => ?_)))
    · refine to_c (pc := 76) rw_30_76 (x := (1 : Int32)) rfl rfl (s_r1 (pc := 77) rw_30_77 (A := 1) rfl (by decide) ?_)
      have k_14 : (1 : Int32).toInt = 1 := rfl
      exact h (1 : Int32) N hG F0 (by decide) (by decide) g6 (by omega) (fun z => absurd z (by decide)) (fun _ => by first | exact IVc_e (by omega) i_2 (by omega) ⟨i_1.1, i_1.2⟩ (by omega) | (exfalso; omega)) (by omega)
    · refine to_an (pc := 34) rw_30_34 rfl ?_
      have c_15 := CS_u g6 (a := (N.2.1 1 9).toInt) (by omega)
      unfold x_C at c_15
      refine tt_gI (pc := 35) rw_30_35 (g_o hG rfl) (v := (N.2.1 1 7)) rfl (b_ieq (pc := 38) rw_30_38 (A := (N.2.1 1 7).toInt) rfl (fun h16 => ?_) (fun h16 => ?_))
      · refine to_c (pc := 76) rw_30_76 (x := (1 : Int32)) rfl rfl (s_r1 (pc := 77) rw_30_77 (A := 1) rfl (by decide) ?_)
        have k_17 : (1 : Int32).toInt = 1 := rfl
        exact h (1 : Int32) N hG F0 (by decide) (by decide) g6 (by omega) (fun z => absurd z (by decide)) (fun _ => by first | exact IVc_e (by omega) i_2 (by omega) ⟨i_1.1, i_1.2⟩ (by omega) | (exfalso; omega)) (by omega)
      · refine to_an (pc := 41) rw_30_41 rfl (to_an (pc := 42) rw_30_42 rfl (s_v (pc := 43) rw_30_43 (dp0 hd (by decide)) (ls0 := [.ref p, .ref 1]) rfl (Nat.le_of_ble_eq_true rfl) (Nat.le_of_ble_eq_true rfl) rfl (to_rc rfl rfl rfl (g_o hG (by rcases hp with rfl | rfl <;> rfl))) rfl (E_31 hX (dp1 hd (by decide)) hG hp g6 (by omega) i_1.1 i_1.2 (by omega) (by omega) (p := p) (t := t) (nn := nn) (a := (N.2.1 1 9).toInt) (sg := sg) (k := (x_kk t nn (22 - x2.toInt).toNat x2.toInt)) (L := x2.toInt) (fun r18 M27 hG20 F19 p_21 p_22 p_23 p_24 p_25 p_26 => ?_))))
        have F28 := FR.c F0 F19 (fun a i z => show a = 1 ∧ 6 ≤ i ∧ i ≤ 11 ∨ p ≤ a ∧ a ≤ p + 8 by have z : a = 1 ∧ 6 ≤ i ∧ i ≤ 11 ∨ a = p ∧ ¬ i = 1 ∨ p + 1 ≤ a ∧ a ≤ p + 8 := z; omega)
        rcases (show r18.toInt = 0 ∨ r18.toInt = 1 by omega) with h29 | h29
        · skip
          have p_30 := p_24 (by omega)
          clear p_24 p_25 p_26
          refine b_ieq_t (pc := 46) rw_30_46 (A := r18.toInt) rfl (by omega) (to_c (pc := 58) rw_30_58 (x := (0 : Int32)) rfl rfl (s_r1 (pc := 59) rw_30_59 (A := 0) rfl (by decide) ?_))
          have k_31 : (0 : Int32).toInt = 0 := rfl
          have c_32 : M27.2.1 p 1 = (N.2.1 p 1) := (F_n F19 (show ¬ (p = 1 ∧ 6 ≤ 1 ∧ 1 ≤ 11 ∨ p = p ∧ ¬ 1 = 1 ∨ p + 1 ≤ p ∧ p ≤ p + 8) by omega) rfl)
          have t_33 : (M27.2.1 p 1).toInt = (N.2.1 p 1).toInt := congrArg Int32.toInt c_32
          exact h (0 : Int32) M27 hG20 F28 (by decide) (by decide) p_23 (by omega) (fun _ => IVc_l (by omega) (by omega) i_2 (by omega) p_30) (fun z => absurd z (by decide)) (by omega)
        · skip
          have p_34 := p_25 (by omega)
          have p_35 := p_26 (by omega)
          clear p_24 p_25 p_26
          refine b_ieq_f (pc := 46) rw_30_46 (A := r18.toInt) rfl (by omega) (to_an (pc := 49) rw_30_49 rfl (to_c (pc := 50) rw_30_50 (x := (59 : Int32)) rfl rfl (s_v (pc := 52) rw_30_52 (dp0 hd (by decide)) (ls0 := [.ref 1, .int (59 : Int32)]) rfl (Nat.le_of_ble_eq_true rfl) (Nat.le_of_ble_eq_true rfl) rfl (to_rc rfl rfl rfl (g_o hG20 rfl)) rfl ?_)))
          have k_36 : (59 : Int32).toInt = 59 := rfl
          refine E_90 hX (dp1 hd (by decide)) hG20 p_23 (by omega) (by omega) (c := (59 : Int32)) (t := t) (nn := nn) (a := (M27.2.1 1 9).toInt) (fun r37 M47 hG39 F38 p_40 p_41 p_42 p_43 p_44 p_45 p_46 => ?_)
          have F48 := FR.c F28 F38 (fun a i z => show a = 1 ∧ 6 ≤ i ∧ i ≤ 11 ∨ p ≤ a ∧ a ≤ p + 8 by have z : a = 1 ∧ 6 ≤ i ∧ i ≤ 11 := z; omega)
          rcases (show r37.toInt = 0 ∨ r37.toInt = 1 by omega) with h49 | h49
          · skip
            have p_50 := p_44 (by omega)
            have p_51 := p_45 (by omega)
            clear p_43 p_44 p_45 p_46
            refine b_ine_f (pc := 55) rw_30_55 (A := r37.toInt) rfl (by omega) (to_c (pc := 58) rw_30_58 (x := (0 : Int32)) rfl rfl (s_r1 (pc := 59) rw_30_59 (A := 0) rfl (by decide) ?_))
            have k_52 : (0 : Int32).toInt = 0 := rfl
            have c_53 : M47.2.1 p 1 = (N.2.1 p 1) := (F_n F38 (show ¬ (p = 1 ∧ 6 ≤ 1 ∧ 1 ≤ 11) by omega) (F_n F19 (show ¬ (p = 1 ∧ 6 ≤ 1 ∧ 1 ≤ 11 ∨ p = p ∧ ¬ 1 = 1 ∨ p + 1 ≤ p ∧ p ≤ p + 8) by omega) rfl))
            have t_54 : (M47.2.1 p 1).toInt = (N.2.1 p 1).toInt := congrArg Int32.toInt c_53
            exact h (0 : Int32) M47 hG39 F48 (by decide) (by decide) p_42 (by omega) (fun _ => pinl (by omega) (by omega) (IVc_n (by omega) (by omega) i_2 (by omega) p_34 rfl (by omega))) (fun z => absurd z (by decide)) (by omega)
          · skip
            have p_55 := p_43 (by omega)
            have p_56 := p_46 (by omega)
            clear p_43 p_44 p_45 p_46
            refine b_ine_t (pc := 55) rw_30_55 (A := r37.toInt) rfl (by omega) (to_an (pc := 60) rw_30_60 rfl (to_dupr (pc := 61) rw_30_61 ?_))
            have c_57 : M47.2.1 p 1 = (N.2.1 p 1) := (F_n F38 (show ¬ (p = 1 ∧ 6 ≤ 1 ∧ 1 ≤ 11) by omega) (F_n F19 (show ¬ (p = 1 ∧ 6 ≤ 1 ∧ 1 ≤ 11 ∨ p = p ∧ ¬ 1 = 1 ∨ p + 1 ≤ p ∧ p ≤ p + 8) by omega) rfl))
            refine tt_gI (pc := 62) rw_30_62 (g_o hG39 (by rcases hp with rfl | rfl <;> rfl)) (v := (N.2.1 p 1)) c_57 (to_c (pc := 65) rw_30_65 (x := (1 : Int32)) rfl rfl (s_add (pc := 66) rw_30_66 (A := (N.2.1 p 1).toInt) (B := 1) rfl rfl (by omega) (fun v58 e59 => s_pI (pc := 67) rw_30_67 hG39 (by rcases hp with rfl | rfl <;> rfl) (fun M61 W60 => ?_))))
            have hG62 := g_wf hG39 W60 (by rcases hp with rfl | rfl <;> rfl) (by rcases hp with rfl | rfl <;> rfl) (by omega)
            have F63 := FR.w F48 W60 (show p = 1 ∧ 6 ≤ 1 ∧ 1 ≤ 11 ∨ p ≤ p ∧ p ≤ p + 8 by omega)
            refine s_inc (pc := 70) rw_30_70 (ls2 := fun v => [.ref p, .ref 1, .int v]) rfl rfl (fun _ => rfl) (A := x2.toInt) (B := 1) rfl rfl (by omega) (fun v64 e65 => to_go (pc := 73) rw_30_73 ?_)
            have c_66 : M61.2.1 p 1 = v58 := (W_e W60)
            have t_67 : (M61.2.1 p 1).toInt = v58.toInt := congrArg Int32.toInt c_66
            have j_68 := (CS_f (fun a i z => W_n W60 (by omega) rfl) p_42)
            have c_69 : M61.2.1 1 9 = (M47.2.1 1 9) := (W_n W60 (by omega) rfl)
            have t_70 : (M61.2.1 1 9).toInt = (M47.2.1 1 9).toInt := congrArg Int32.toInt c_69
            have tr_71 : ∀ s9 : x_S, PLc2 M27 p s9 → PLc2 M61 p s9 := fun s9 h9 => ⟨PLc_f (fun a i z => (W_n W60 (by omega) (F_n F38 (show ¬ (a = 1 ∧ 6 ≤ i ∧ i ≤ 11) by omega) rfl))) (W_j W60 (F_nl F38 (show ¬ (p = 1 ∧ 6 ≤ 4 ∧ 4 ≤ 11) by omega) rfl)) h9.1, CW_f (fun k hk9 => (W_j W60 (F_nl F38 (show ¬ ((p + 8) = 1 ∧ 6 ≤ k ∧ k ≤ 11) by omega) rfl))) h9.2⟩
            have c_72 : M61.2.1 1 10 = (M47.2.1 1 10) := (W_n W60 (by omega) rfl)
            have t_73 : (M61.2.1 1 10).toInt = (M47.2.1 1 10).toInt := congrArg Int32.toInt c_72
            have c_74 : M61.2.1 1 11 = (M47.2.1 1 11) := (W_n W60 (by omega) rfl)
            have t_75 : (M61.2.1 1 11).toInt = (M47.2.1 1 11).toInt := congrArg Int32.toInt c_74
            exact ih M61 v64 hG62 F63 (by omega) (by omega) (by omega) (by omega) (by omega) j_68 (IVc_s (by omega) (by omega) i_2 (by omega) i_3 i_4 p_34 rfl (by omega) (by omega) (by omega) tr_71) (by omega) (by omega)
set_option maxRecDepth 4000 in
set_option maxHeartbeats 0 in
theorem E_30 {X : mm_X} {d : Nat} {M : mm_M} {Q : Option Value → mm_M → Prop} {p : Nat} {t : Nat → Int} {nn : Int} {a : Int} (hX : g_X X) (hd : 5 ≤ d) (hG : g_G M) (hp : p = 49 ∨ p = 58) (q1 : CS M t nn) (q2 : (M.2.1 1 9).toInt = a) (h : ∀ (r : Int32) (M1 : mm_M), g_G M1 → FR (md_r30 p) M M1 → (0 ≤ r.toInt) → (r.toInt ≤ 1) → CS M1 t nn → (r.toInt = 1 → 0 ≤ (M1.2.1 p 1).toInt) → ((r.toInt = 0 → x_plan t nn 23 0 x_s0 a = (Sum.inl ((M1.2.1 1 10).toInt, (M1.2.1 1 11).toInt) : x_Res))) → ((r.toInt = 1 → ROK (x_plan t nn 23 0 x_s0 a) M1 p)) → (r.toInt = 1 → (M1.2.1 1 10).toInt = (M.2.1 1 10).toInt ∧ (M1.2.1 1 11).toInt = (M.2.1 1 11).toInt) → Q (some (.int r)) M1) : mm_T X d 30 0 [.ref p, .ref 1, .null] [] M Q := by
  have F0 : FR (md_r30 p) M M := FR.rf
  refine to_an (pc := 0) rw_30_0 rfl (to_c (pc := 1) rw_30_1 (x := (10 : Int32)) rfl rfl (s_pI (pc := 3) rw_30_3 hG (by rcases hp with rfl | rfl <;> rfl) (fun M77 W76 => ?_)))
  have hG78 := g_w hG W76 (A := 10) rfl (lo := 10) (hi := 60) (by rcases hp with rfl | rfl <;> rfl) (by rcases hp with rfl | rfl <;> rfl) (by omega) (by omega)
  have F79 := FR.w F0 W76 (show p = 1 ∧ 6 ≤ 0 ∧ 0 ≤ 11 ∨ p ≤ p ∧ p ≤ p + 8 by omega)
  refine to_an (pc := 6) rw_30_6 rfl (to_c (pc := 7) rw_30_7 (x := (0 : Int32)) rfl rfl (s_pI (pc := 8) rw_30_8 hG78 (by rcases hp with rfl | rfl <;> rfl) (fun M81 W80 => ?_)))
  have hG82 := g_wf hG78 W80 (by rcases hp with rfl | rfl <;> rfl) (by rcases hp with rfl | rfl <;> rfl) (by omega)
  have F83 := FR.w F79 W80 (show p = 1 ∧ 6 ≤ 1 ∧ 1 ≤ 11 ∨ p ≤ p ∧ p ≤ p + 8 by omega)
  refine to_an (pc := 11) rw_30_11 rfl (to_c (pc := 12) rw_30_12 (x := (0 : Int32)) rfl rfl (s_pI (pc := 13) rw_30_13 hG82 (by rcases hp with rfl | rfl <;> rfl) (fun M85 W84 => ?_)))
  have hG86 := g_w hG82 W84 (A := 0) rfl (lo := 0) (hi := 8) (by rcases hp with rfl | rfl <;> rfl) (by rcases hp with rfl | rfl <;> rfl) (by omega) (by omega)
  have F87 := FR.w F83 W84 (show p = 1 ∧ 6 ≤ 2 ∧ 2 ≤ 11 ∨ p ≤ p ∧ p ≤ p + 8 by omega)
  refine to_an (pc := 16) rw_30_16 rfl (to_c (pc := 17) rw_30_17 (x := (0 : Int32)) rfl rfl (s_pI (pc := 18) rw_30_18 hG86 (by rcases hp with rfl | rfl <;> rfl) (fun M89 W88 => ?_)))
  have hG90 := g_w hG86 W88 (A := 0) rfl (lo := 0) (hi := 12) (by rcases hp with rfl | rfl <;> rfl) (by rcases hp with rfl | rfl <;> rfl) (by omega) (by omega)
  have F91 := FR.w F87 W88 (show p = 1 ∧ 6 ≤ 3 ∧ 3 ≤ 11 ∨ p ≤ p ∧ p ≤ p + 8 by omega)
  refine to_an (pc := 21) rw_30_21 rfl (to_cl (pc := 22) rw_30_22 rfl (x := (0 : Int64)) rfl (s_pJ (pc := 23) rw_30_23 hG90 (by rcases hp with rfl | rfl <;> rfl) (fun M93 W92 => ?_)))
  have hG94 := g_wl hG90 W92
  have F95 := FR.wl F91 W92 (show p = 1 ∧ 6 ≤ 4 ∧ 4 ≤ 11 ∨ p ≤ p ∧ p ≤ p + 8 by omega)
  refine to_c (pc := 26) rw_30_26 (x := (0 : Int32)) rfl rfl (to_isn (pc := 27) rw_30_27 (ls2 := [.ref p, .ref 1, .int (0 : Int32)]) rfl rfl ?_)
  have k_96 : (0 : Int32).toInt = 0 := rfl
  have c_97 : M93.2.1 p 1 = (0 : Int32) := (W_l W92 (W_n W88 (by omega) (W_n W84 (by omega) (W_e W80))))
  have t_98 : (M93.2.1 p 1).toInt = (0 : Int32).toInt := congrArg Int32.toInt c_97
  have j_99 := (CS_f (fun a i z => W_l W92 rfl) (CS_f (fun a i z => W_n W88 (by omega) rfl) (CS_f (fun a i z => W_n W84 (by omega) rfl) (CS_f (fun a i z => W_n W80 (by omega) rfl) (CS_f (fun a i z => W_n W76 (by omega) rfl) q1)))))
  have c_100 : M93.2.1 1 9 = (M.2.1 1 9) := (W_l W92 (W_n W88 (by omega) (W_n W84 (by omega) (W_n W80 (by omega) (W_n W76 (by omega) rfl)))))
  have t_101 : (M93.2.1 1 9).toInt = (M.2.1 1 9).toInt := congrArg Int32.toInt c_100
  have c_102 : M93.2.1 p 0 = (10 : Int32) := (W_l W92 (W_n W88 (by omega) (W_n W84 (by omega) (W_n W80 (by omega) (W_e W76)))))
  have k_103 : (10 : Int32).toInt = 10 := rfl
  have t_104 : (M93.2.1 p 0).toInt = (10 : Int32).toInt := congrArg Int32.toInt c_102
  have c_105 : M93.2.1 p 2 = (0 : Int32) := (W_l W92 (W_n W88 (by omega) (W_e W84)))
  have t_106 : (M93.2.1 p 2).toInt = (0 : Int32).toInt := congrArg Int32.toInt c_105
  have c_107 : M93.2.1 p 3 = (0 : Int32) := (W_l W92 (W_e W88))
  have t_108 : (M93.2.1 p 3).toInt = (0 : Int32).toInt := congrArg Int32.toInt c_107
  have c_109 : M93.2.1 1 10 = (M.2.1 1 10) := (W_l W92 (W_n W88 (by omega) (W_n W84 (by omega) (W_n W80 (by omega) (W_n W76 (by omega) rfl)))))
  have t_110 : (M93.2.1 1 10).toInt = (M.2.1 1 10).toInt := congrArg Int32.toInt c_109
  have c_111 : M93.2.1 1 11 = (M.2.1 1 11) := (W_l W92 (W_n W88 (by omega) (W_n W84 (by omega) (W_n W80 (by omega) (W_n W76 (by omega) rfl)))))
  have t_112 : (M93.2.1 1 11).toInt = (M.2.1 1 11).toInt := congrArg Int32.toInt c_111
  exact (U_30_0 (p := p) (t := t) (nn := nn) (a := a) hX hd hp q1 q2 h ((22 - (0 : Int32).toInt).toNat + 1)) M93 (0 : Int32) hG94 F95 (by omega) (by omega) (by omega) (by omega) (by omega) j_99 (IVc_0 ⟨PLc_0 (by omega) (by omega) (by omega) (L_e W92), CW_0⟩ (by omega) (by omega)) (by omega) (by omega)
