set_option maxRecDepth 4000 in
set_option maxHeartbeats 0 in
theorem E_31 {X : mm_X} {d : Nat} {M : mm_M} {Q : Option Value → mm_M → Prop} {p : Nat} {t : Nat → Int} {nn : Int} {a : Int} {sg : x_S} {k : x_K} {L : Int} (hX : g_X X) (hd : 4 ≤ d) (hG : g_G M) (hp : p = 49 ∨ p = 58) (q1 : CS M t nn) (q2 : (M.2.1 1 9).toInt = a) (q3 : PLc M p sg) (q4 : CW M p sg) (q5 : (M.2.1 p 1).toInt = L) (q6 : 0 ≤ L) (h : ∀ (r : Int32) (M1 : mm_M), g_G M1 → FR (md_l31 p) M M1 → (0 ≤ r.toInt) → (r.toInt ≤ 1) → CS M1 t nn → ((r.toInt = 0 → x_line t nn L sg a k = none)) → ((r.toInt = 1 → LOK t nn (x_line t nn L sg a k) k M1 p L sg)) → Q (some (.int r)) M1) : mm_T X d 31 0 [.ref p, .ref 1] [] M Q := by
  have F0 : FR (md_l31 p) M M := FR.rf
  have z_1 := q3.2.1
  have z_2 := q3.2.2.1
  have z_3 := q3.2.2.2.1
  have z_4 := q3.1
  have z_5 := z_4.1
  have z_6 := z_4.2.1
  have z_7 := z_4.2.2.1
  have z_8 := z_4.2.2.2.1
  have z_9 := z_4.2.2.2.2.1
  have z_10 := z_4.2.2.2.2.2.1
  have b_11 := g_b hG (a := p) (i := 0) (lo := 10) (hi := 60) (by rcases hp with rfl | rfl <;> rfl) (by rcases hp with rfl | rfl <;> rfl)
  have b_12 := g_b hG (a := p) (i := 2) (lo := 0) (hi := 8) (by rcases hp with rfl | rfl <;> rfl) (by rcases hp with rfl | rfl <;> rfl)
  have b_13 := g_b hG (a := p) (i := 3) (lo := 0) (hi := 12) (by rcases hp with rfl | rfl <;> rfl) (by rcases hp with rfl | rfl <;> rfl)
  have z_14 := x_kx_w (x_val t nn a)
  refine to_an (pc := 0) rw_31_0 rfl (to_c (pc := 1) rw_31_1 (x := (284563040 : Int32)) rfl rfl (s_v (pc := 3) rw_31_3 (dp0 hd (by decide)) (ls0 := [.ref 1, .int (284563040 : Int32)]) rfl (Nat.le_of_ble_eq_true rfl) (Nat.le_of_ble_eq_true rfl) rfl (to_rc rfl rfl rfl (g_o hG rfl)) rfl ?_))
  have k_15 : (284563040 : Int32).toInt = 284563040 := rfl
  refine E_86 hX (dp1 hd (by decide)) hG q1 (by omega) (x := (284563040 : Int32)) (t := t) (nn := nn) (a := a) (fun r16 M23 hG18 F17 p_19 p_20 p_21 p_22 => ?_)
  have F24 := FR.c F0 F17 (fun a i z => show a = 1 ∧ 6 ≤ i ∧ i ≤ 11 ∨ a = p ∧ ¬ i = 1 ∨ p + 1 ≤ a ∧ a ≤ p + 8 by have z : a < 0 := z; omega)
  rcases (show r16.toInt = 0 ∨ r16.toInt = 1 by omega) with h25 | h25
  · skip
    have p_26 := p_22 (by omega)
    clear p_21 p_22
    refine b_ieq_t (pc := 6) rw_31_6 (A := r16.toInt) rfl (by omega) (to_an (pc := 15) rw_31_15 rfl ?_)
    have c_27 : M23.2.1 p 1 = (M.2.1 p 1) := (F_n F17 (show ¬ (p < 0) by omega) rfl)
    refine tt_gI (pc := 16) rw_31_16 (g_o hG18 (by rcases hp with rfl | rfl <;> rfl)) (v := (M.2.1 p 1)) c_27 (b_ile (pc := 19) rw_31_19 (A := (M.2.1 p 1).toInt) rfl (fun h28 => ?_) (fun h28 => ?_))
    · refine to_an (pc := 37) rw_31_37 rfl (tt_gI (pc := 38) rw_31_38 (g_o hG18 (by rcases hp with rfl | rfl <;> rfl)) (v := (M.2.1 p 1)) c_27 (b_ile_t (pc := 41) rw_31_41 (A := (M.2.1 p 1).toInt) rfl (by omega) (to_an (pc := 59) rw_31_59 rfl (to_c (pc := 60) rw_31_60 (x := (1 : Int32)) rfl rfl (s_v (pc := 61) rw_31_61 (dp0 hd (by decide)) (ls0 := [.ref 1, .int (1 : Int32)]) rfl (Nat.le_of_ble_eq_true rfl) (Nat.le_of_ble_eq_true rfl) rfl (to_rc rfl rfl rfl (g_o hG18 rfl)) rfl (to_an (pc := 0) rw_84_0 rfl (to_in (pc := 1) rw_84_1 rfl (s_pI (pc := 2) rw_84_2 hG18 rfl (fun M30 W29 => ?_)))))))))
      have hG31 := g_wf hG18 W29 rfl rfl (by decide)
      have F32 := FR.w F24 W29 (show 1 = 1 ∧ 6 ≤ 10 ∧ 10 ≤ 11 ∨ 1 = p ∧ ¬ 10 = 1 ∨ p + 1 ≤ 1 ∧ 1 ≤ p + 8 by omega)
      refine to_an (pc := 5) rw_84_5 rfl (to_an (pc := 6) rw_84_6 rfl ?_)
      have c_33 : M30.2.1 1 9 = (M.2.1 1 9) := (W_n W29 (by decide) (F_n F17 (show ¬ (1 < 0) by decide) rfl))
      refine tt_gI (pc := 7) rw_84_7 (g_o hG31 rfl) (v := (M.2.1 1 9)) c_33 (s_pI (pc := 10) rw_84_10 hG31 rfl (fun M35 W34 => ?_))
      have hG36 := g_wf hG31 W34 rfl rfl (by decide)
      have F37 := FR.w F32 W34 (show 1 = 1 ∧ 6 ≤ 11 ∧ 11 ≤ 11 ∨ 1 = p ∧ ¬ 11 = 1 ∨ p + 1 ≤ 1 ∧ 1 ≤ p + 8 by omega)
      refine to_c (pc := 13) rw_84_13 (x := (0 : Int32)) rfl rfl (s_r1 (pc := 14) rw_84_14 (A := 0) rfl (by decide) (s_r1 (pc := 64) rw_31_64 (A := 0) rfl (by decide) ?_))
      have k_38 : (0 : Int32).toInt = 0 := rfl
      have j_39 := (CS_f (fun a i z => W_n W34 (tg_32 a i z) rfl) (CS_f (fun a i z => W_n W29 (tg_33 a i z) rfl) (CS_f (tg_28 F17) q1)))
      exact h (0 : Int32) M35 hG36 F37 (by decide) (by decide) j_39 (fun _ => by first | exact x_line_n (by omega) | exact x_line_t (by omega) (by omega) | exact (if g9 : x_kind t nn a = 1 then x_line_t (by omega) (by omega) else x_line_n (by omega)) | exact (x_line_h (by omega) (by omega) (by omega)).trans (x_holes_n (by omega))) (fun z => by exfalso; omega)
    · refine to_an (pc := 22) rw_31_22 rfl (to_c (pc := 23) rw_31_23 (x := (210940032 : Int32)) rfl rfl (s_v (pc := 25) rw_31_25 (dp0 hd (by decide)) (ls0 := [.ref 1, .int (210940032 : Int32)]) rfl (Nat.le_of_ble_eq_true rfl) (Nat.le_of_ble_eq_true rfl) rfl (to_rc rfl rfl rfl (g_o hG18 rfl)) rfl ?_))
      have k_40 : (210940032 : Int32).toInt = 210940032 := rfl
      have j_41 := (CS_f (tg_28 F17) q1)
      have c_42 : M23.2.1 1 9 = (M.2.1 1 9) := (F_n F17 (show ¬ (1 < 0) by decide) rfl)
      have t_43 : (M23.2.1 1 9).toInt = (M.2.1 1 9).toInt := congrArg Int32.toInt c_42
      refine E_86 hX (dp1 hd (by decide)) hG18 j_41 (by omega) (x := (210940032 : Int32)) (t := t) (nn := nn) (a := a) (fun r44 M51 hG46 F45 p_47 p_48 p_49 p_50 => ?_)
      have F52 := FR.c F24 F45 (fun a i z => show a = 1 ∧ 6 ≤ i ∧ i ≤ 11 ∨ a = p ∧ ¬ i = 1 ∨ p + 1 ≤ a ∧ a ≤ p + 8 by have z : a < 0 := z; omega)
      rcases (show r44.toInt = 0 ∨ r44.toInt = 1 by omega) with h53 | h53
      · skip
        have p_54 := p_50 (by omega)
        clear p_49 p_50
        refine b_ieq_t (pc := 28) rw_31_28 (A := r44.toInt) rfl (by omega) (to_an (pc := 37) rw_31_37 rfl ?_)
        have c_55 : M51.2.1 p 1 = (M.2.1 p 1) := (F_n F45 (show ¬ (p < 0) by omega) c_27)
        refine tt_gI (pc := 38) rw_31_38 (g_o hG46 (by rcases hp with rfl | rfl <;> rfl)) (v := (M.2.1 p 1)) c_55 (b_ile_f (pc := 41) rw_31_41 (A := (M.2.1 p 1).toInt) rfl (by omega) (to_an (pc := 44) rw_31_44 rfl (to_c (pc := 45) rw_31_45 (x := (788074496 : Int32)) rfl rfl (s_v (pc := 47) rw_31_47 (dp0 hd (by decide)) (ls0 := [.ref 1, .int (788074496 : Int32)]) rfl (Nat.le_of_ble_eq_true rfl) (Nat.le_of_ble_eq_true rfl) rfl (to_rc rfl rfl rfl (g_o hG46 rfl)) rfl ?_))))
        have k_56 : (788074496 : Int32).toInt = 788074496 := rfl
        have j_57 := (CS_f (tg_28 F45) j_41)
        have c_58 : M51.2.1 1 9 = (M.2.1 1 9) := (F_n F45 (show ¬ (1 < 0) by decide) c_42)
        have t_59 : (M51.2.1 1 9).toInt = (M.2.1 1 9).toInt := congrArg Int32.toInt c_58
        refine E_86 hX (dp1 hd (by decide)) hG46 j_57 (by omega) (x := (788074496 : Int32)) (t := t) (nn := nn) (a := a) (fun r60 M67 hG62 F61 p_63 p_64 p_65 p_66 => ?_)
        have F68 := FR.c F52 F61 (fun a i z => show a = 1 ∧ 6 ≤ i ∧ i ≤ 11 ∨ a = p ∧ ¬ i = 1 ∨ p + 1 ≤ a ∧ a ≤ p + 8 by have z : a < 0 := z; omega)
        rcases (show r60.toInt = 0 ∨ r60.toInt = 1 by omega) with h69 | h69
        · skip
          have p_70 := p_66 (by omega)
          clear p_65 p_66
          refine b_ieq_t (pc := 50) rw_31_50 (A := r60.toInt) rfl (by omega) (to_an (pc := 59) rw_31_59 rfl (to_c (pc := 60) rw_31_60 (x := (1 : Int32)) rfl rfl (s_v (pc := 61) rw_31_61 (dp0 hd (by decide)) (ls0 := [.ref 1, .int (1 : Int32)]) rfl (Nat.le_of_ble_eq_true rfl) (Nat.le_of_ble_eq_true rfl) rfl (to_rc rfl rfl rfl (g_o hG62 rfl)) rfl (to_an (pc := 0) rw_84_0 rfl (to_in (pc := 1) rw_84_1 rfl (s_pI (pc := 2) rw_84_2 hG62 rfl (fun M72 W71 => ?_)))))))
          have hG73 := g_wf hG62 W71 rfl rfl (by decide)
          have F74 := FR.w F68 W71 (show 1 = 1 ∧ 6 ≤ 10 ∧ 10 ≤ 11 ∨ 1 = p ∧ ¬ 10 = 1 ∨ p + 1 ≤ 1 ∧ 1 ≤ p + 8 by omega)
          refine to_an (pc := 5) rw_84_5 rfl (to_an (pc := 6) rw_84_6 rfl ?_)
          have c_75 : M72.2.1 1 9 = (M.2.1 1 9) := (W_n W71 (by decide) (F_n F61 (show ¬ (1 < 0) by decide) c_58))
          refine tt_gI (pc := 7) rw_84_7 (g_o hG73 rfl) (v := (M.2.1 1 9)) c_75 (s_pI (pc := 10) rw_84_10 hG73 rfl (fun M77 W76 => ?_))
          have hG78 := g_wf hG73 W76 rfl rfl (by decide)
          have F79 := FR.w F74 W76 (show 1 = 1 ∧ 6 ≤ 11 ∧ 11 ≤ 11 ∨ 1 = p ∧ ¬ 11 = 1 ∨ p + 1 ≤ 1 ∧ 1 ≤ p + 8 by omega)
          refine to_c (pc := 13) rw_84_13 (x := (0 : Int32)) rfl rfl (s_r1 (pc := 14) rw_84_14 (A := 0) rfl (by decide) (s_r1 (pc := 64) rw_31_64 (A := 0) rfl (by decide) ?_))
          have k_80 : (0 : Int32).toInt = 0 := rfl
          have j_81 := (CS_f (fun a i z => W_n W76 (tg_32 a i z) rfl) (CS_f (fun a i z => W_n W71 (tg_33 a i z) rfl) (CS_f (tg_28 F61) j_57)))
          exact h (0 : Int32) M77 hG78 F79 (by decide) (by decide) j_81 (fun _ => by first | exact x_line_n (by omega) | exact x_line_t (by omega) (by omega) | exact (if g9 : x_kind t nn a = 1 then x_line_t (by omega) (by omega) else x_line_n (by omega)) | exact (x_line_h (by omega) (by omega) (by omega)).trans (x_holes_n (by omega))) (fun z => by exfalso; omega)
        · skip
          have p_82 := p_65 (by omega)
          clear p_65 p_66
          refine b_ieq_f (pc := 50) rw_31_50 (A := r60.toInt) rfl (by omega) (to_an (pc := 53) rw_31_53 rfl (to_an (pc := 54) rw_31_54 rfl (s_v (pc := 55) rw_31_55 (dp0 hd (by decide)) (ls0 := [.ref p, .ref 1, .null]) rfl (Nat.le_of_ble_eq_true rfl) (Nat.le_of_ble_eq_true rfl) rfl (to_rc rfl rfl rfl (g_o hG62 (by rcases hp with rfl | rfl <;> rfl))) rfl ?_)))
          have j_83 := (CS_f (tg_28 F61) j_57)
          have c_84 : M67.2.1 1 9 = (M.2.1 1 9) := (F_n F61 (show ¬ (1 < 0) by decide) c_58)
          have t_85 : (M67.2.1 1 9).toInt = (M.2.1 1 9).toInt := congrArg Int32.toInt c_84
          have j_86 := (PLc_f (fun a i z => F_n F61 (show ¬ (a < 0) by omega) rfl) (F_nl F61 (show ¬ (p < 0) by omega) rfl) (PLc_f (fun a i z => F_n F45 (show ¬ (a < 0) by omega) rfl) (F_nl F45 (show ¬ (p < 0) by omega) rfl) (PLc_f (fun a i z => F_n F17 (show ¬ (a < 0) by omega) rfl) (F_nl F17 (show ¬ (p < 0) by omega) rfl) q3)))
          have j_87 := (CW_f (fun k hk9 => F_nl F61 (show ¬ ((p + 8) < 0) by omega) rfl) (CW_f (fun k hk9 => F_nl F45 (show ¬ ((p + 8) < 0) by omega) rfl) (CW_f (fun k hk9 => F_nl F17 (show ¬ ((p + 8) < 0) by omega) rfl) q4)))
          refine E_41 hX (dp1 hd (by decide)) hG62 hp j_83 (by omega) j_86 j_87 (p := p) (t := t) (nn := nn) (a := a) (sg := sg) (k := k) (fun r88 M96 hG90 F89 p_91 p_92 p_93 p_94 p_95 => ?_)
          have F97 := FR.c F68 F89 (fun a i z => show a = 1 ∧ 6 ≤ i ∧ i ≤ 11 ∨ a = p ∧ ¬ i = 1 ∨ p + 1 ≤ a ∧ a ≤ p + 8 by have z : a = 1 ∧ 6 ≤ i ∧ i ≤ 11 ∨ a = p ∧ i = 3 ∨ p + 6 ≤ a ∧ a ≤ p + 8 := z; omega)
          rcases (show r88.toInt = 0 ∨ r88.toInt = 1 by omega) with h98 | h98
          · skip
            have p_99 := p_94 (by omega)
            clear p_94 p_95
            refine s_r1 (pc := 58) rw_31_58 (A := r88.toInt) rfl (by omega) ?_
            exact h r88 M96 hG90 F97 (by omega) (by omega) p_93 (fun z => (x_line_w (by omega) (by omega) (by omega)).trans p_99) (fun z => by exfalso; omega)
          · skip
            have p_100 := p_95 (by omega)
            clear p_94 p_95
            refine s_r1 (pc := 58) rw_31_58 (A := r88.toInt) rfl (by omega) ?_
            have z_101 : x_line t nn L sg a k = x_word t nn sg (x_ns t nn a) k := by clear p_100; exact x_line_w (by omega) (by omega) (by omega)
            have z_102 : ¬ L = 0 := by clear p_100; omega
            exact h r88 M96 hG90 F97 (by omega) (by omega) p_93 (fun z => by exfalso; omega) (fun _ => p_100.elim (fun h8 => Or.inl (Exists.elim h8 (fun s2 h9 => ⟨s2, z_101.trans h9.1, h9.2.1, fun z => absurd z z_102, fun _ => h9.2.2⟩))) (fun h8 => Or.inr ⟨z_101.trans h8.1, h8.2⟩))
      · skip
        have p_103 := p_49 (by omega)
        clear p_49 p_50
        refine b_ieq_f (pc := 28) rw_31_28 (A := r44.toInt) rfl (by omega) (to_an (pc := 31) rw_31_31 rfl (to_an (pc := 32) rw_31_32 rfl (s_v (pc := 33) rw_31_33 (dp0 hd (by decide)) (ls0 := [.ref p, .ref 1, .null, .null]) rfl (Nat.le_of_ble_eq_true rfl) (Nat.le_of_ble_eq_true rfl) rfl (to_rc rfl rfl rfl (g_o hG46 (by rcases hp with rfl | rfl <;> rfl))) rfl ?_)))
        have j_104 := (CS_f (tg_28 F45) j_41)
        have c_105 : M51.2.1 1 9 = (M.2.1 1 9) := (F_n F45 (show ¬ (1 < 0) by decide) c_42)
        have t_106 : (M51.2.1 1 9).toInt = (M.2.1 1 9).toInt := congrArg Int32.toInt c_105
        have j_107 := (PLc_f (fun a i z => F_n F45 (show ¬ (a < 0) by omega) rfl) (F_nl F45 (show ¬ (p < 0) by omega) rfl) (PLc_f (fun a i z => F_n F17 (show ¬ (a < 0) by omega) rfl) (F_nl F17 (show ¬ (p < 0) by omega) rfl) q3))
        have j_108 := (CW_f (fun k hk9 => F_nl F45 (show ¬ ((p + 8) < 0) by omega) rfl) (CW_f (fun k hk9 => F_nl F17 (show ¬ ((p + 8) < 0) by omega) rfl) q4))
        refine E_33 hX (dp1 hd (by decide)) hG46 hp j_104 (by omega) j_107 j_108 (p := p) (t := t) (nn := nn) (a := a) (sg := sg) (k := k) (fun r109 M117 hG111 F110 p_112 p_113 p_114 p_115 p_116 => ?_)
        have F118 := FR.c F52 F110 (fun a i z => show a = 1 ∧ 6 ≤ i ∧ i ≤ 11 ∨ a = p ∧ ¬ i = 1 ∨ p + 1 ≤ a ∧ a ≤ p + 8 by have z : a = 1 ∧ 6 ≤ i ∧ i ≤ 11 ∨ a = p ∧ 2 ≤ i ∨ p + 1 ≤ a ∧ a ≤ p + 5 := z; omega)
        rcases (show r109.toInt = 0 ∨ r109.toInt = 1 by omega) with h119 | h119
        · skip
          have p_120 := p_115 (by omega)
          clear p_115 p_116
          refine s_r1 (pc := 36) rw_31_36 (A := r109.toInt) rfl (by omega) ?_
          exact h r109 M117 hG111 F118 (by omega) (by omega) p_114 (fun z => (x_line_f (by omega) (by omega) (by omega)).trans p_120) (fun z => by exfalso; omega)
        · skip
          have p_121 := p_116 (by omega)
          clear p_115 p_116
          refine s_r1 (pc := 36) rw_31_36 (A := r109.toInt) rfl (by omega) ?_
          have z_122 : x_line t nn L sg a k = x_field t nn sg (x_ns t nn a) k := by clear p_121; exact x_line_f (by omega) (by omega) (by omega)
          have z_123 : ¬ L = 0 := by clear p_121; omega
          exact h r109 M117 hG111 F118 (by omega) (by omega) p_114 (fun z => by exfalso; omega) (fun _ => Or.inl (Exists.elim p_121 (fun s2 h9 => ⟨s2, z_122.trans h9.1, h9.2.1, fun z => absurd z z_123, fun _ => h9.2.2⟩)))
  · skip
    have p_124 := p_21 (by omega)
    clear p_21 p_22
    refine b_ieq_f (pc := 6) rw_31_6 (A := r16.toInt) rfl (by omega) (to_an (pc := 9) rw_31_9 rfl (to_an (pc := 10) rw_31_10 rfl (s_v (pc := 11) rw_31_11 (dp0 hd (by decide)) (ls0 := [.ref p, .ref 1]) rfl (Nat.le_of_ble_eq_true rfl) (Nat.le_of_ble_eq_true rfl) rfl (to_rc rfl rfl rfl (g_o hG18 (by rcases hp with rfl | rfl <;> rfl))) rfl (to_an (pc := 0) rw_32_0 rfl ?_))))
    have c_125 : M23.2.1 p 1 = (M.2.1 p 1) := (F_n F17 (show ¬ (p < 0) by omega) rfl)
    refine tt_gI (pc := 1) rw_32_1 (g_o hG18 (by rcases hp with rfl | rfl <;> rfl)) (v := (M.2.1 p 1)) c_125 (b_ile (pc := 4) rw_32_4 (A := (M.2.1 p 1).toInt) rfl (fun h126 => ?_) (fun h126 => ?_))
    · refine to_an (pc := 13) rw_32_13 rfl (s_v (pc := 14) rw_32_14 (dp1 hd (by decide)) (ls0 := [.ref 1]) rfl (Nat.le_of_ble_eq_true rfl) (Nat.le_of_ble_eq_true rfl) rfl (to_rc rfl rfl rfl (g_o hG18 rfl)) rfl ?_)
      have j_127 := (CS_f (tg_28 F17) q1)
      have c_128 : M23.2.1 1 9 = (M.2.1 1 9) := (F_n F17 (show ¬ (1 < 0) by decide) rfl)
      have t_129 : (M23.2.1 1 9).toInt = (M.2.1 1 9).toInt := congrArg Int32.toInt c_128
      refine E_83 hX (dp2 hd (by decide)) hG18 j_127 (by omega) (t := t) (nn := nn) (a := a) (fun M134 hG131 F130 p_132 p_133 => ?_)
      have F135 := FR.c F24 F130 (fun a i z => show a = 1 ∧ 6 ≤ i ∧ i ≤ 11 ∨ a = p ∧ ¬ i = 1 ∨ p + 1 ≤ a ∧ a ≤ p + 8 by have z : a = 1 ∧ 6 ≤ i ∧ i ≤ 9 := z; omega)
      refine to_an (pc := 17) rw_32_17 rfl (to_c (pc := 18) rw_32_18 (x := (10 : Int32)) rfl rfl (to_c (pc := 20) rw_32_20 (x := (60 : Int32)) rfl rfl (s_v (pc := 22) rw_32_22 (dp1 hd (by decide)) (ls0 := [.ref 1, .int (10 : Int32), .int (60 : Int32)]) rfl (Nat.le_of_ble_eq_true rfl) (Nat.le_of_ble_eq_true rfl) rfl (to_rc rfl rfl rfl (g_o hG131 rfl)) rfl ?_)))
      have k_136 : (10 : Int32).toInt = 10 := rfl
      have k_137 : (60 : Int32).toInt = 60 := rfl
      refine E_88 hX (dp2 hd (by decide)) hG131 p_132 (by omega) (l := (10 : Int32)) (m := (60 : Int32)) (t := t) (nn := nn) (a := (x_ns t nn a)) (fun r138 M145 hG140 F139 p_141 p_142 p_143 p_144 => ?_)
      have F146 := FR.c F135 F139 (fun a i z => show a = 1 ∧ 6 ≤ i ∧ i ≤ 11 ∨ a = p ∧ ¬ i = 1 ∨ p + 1 ≤ a ∧ a ≤ p + 8 by have z : a = 1 ∧ (i = 10 ∨ i = 11) := z; omega)
      rcases (show r138.toInt = 0 ∨ r138.toInt = 1 by omega) with h147 | h147
      · skip
        have p_148 := p_144 (by omega)
        clear p_143 p_144
        have z_149 := x_val_b (t := t) (nn := nn) (a := (x_ns t nn a))
        refine b_ine_f (pc := 25) rw_32_25 (A := r138.toInt) rfl (by omega) (to_c (pc := 28) rw_32_28 (x := (0 : Int32)) rfl rfl (s_r1 (pc := 29) rw_32_29 (A := 0) rfl (by decide) (s_r1 (pc := 14) rw_31_14 (A := 0) rfl (by decide) ?_)))
        have k_150 : (0 : Int32).toInt = 0 := rfl
        have j_151 := (CS_f (tg_34 F139) p_132)
        exact h (0 : Int32) M145 hG140 F146 (by decide) (by decide) j_151 (fun _ => by first | exact x_line_n (by omega) | exact x_line_t (by omega) (by omega) | exact (if g9 : x_kind t nn a = 1 then x_line_t (by omega) (by omega) else x_line_n (by omega)) | exact (x_line_h (by omega) (by omega) (by omega)).trans (x_holes_n (by omega))) (fun z => by exfalso; omega)
      · skip
        have p_152 := p_143 (by omega)
        clear p_143 p_144
        have c_153 : M145.2.1 1 8 = (M134.2.1 1 8) := (F_n F139 (show ¬ (1 = 1 ∧ (8 = 10 ∨ 8 = 11)) by decide) rfl)
        have z_154 := x_val_b (t := t) (nn := nn) (a := (x_ns t nn a)) (by omega)
        refine b_ine_t (pc := 25) rw_32_25 (A := r138.toInt) rfl (by omega) (to_an (pc := 30) rw_32_30 rfl (to_an (pc := 31) rw_32_31 rfl (tt_gI (pc := 32) rw_32_32 (g_o hG140 rfl) (v := (M134.2.1 1 8)) c_153 ?_)))
        have j_155 := (PLc_f (fun a i z => F_n F139 (show ¬ (a = 1 ∧ (i = 10 ∨ i = 11)) by omega) rfl) (F_nl F139 (show ¬ (p = 1 ∧ (4 = 10 ∨ 4 = 11)) by omega) rfl) (PLc_f (fun a i z => F_n F130 (show ¬ (a = 1 ∧ 6 ≤ i ∧ i ≤ 9) by omega) rfl) (F_nl F130 (show ¬ (p = 1 ∧ 6 ≤ 4 ∧ 4 ≤ 9) by omega) rfl) (PLc_f (fun a i z => F_n F17 (show ¬ (a < 0) by omega) rfl) (F_nl F17 (show ¬ (p < 0) by omega) rfl) q3)))
        refine s_pI (pc := 35) rw_32_35 hG140 (by rcases hp with rfl | rfl <;> rfl) (fun M157 W156 => ?_)
        have hG158 := g_w hG140 W156 (A := (M134.2.1 1 8).toInt) rfl (lo := 10) (hi := 60) (by rcases hp with rfl | rfl <;> rfl) (by rcases hp with rfl | rfl <;> rfl) (by omega) (by omega)
        have F159 := FR.w F146 W156 (show p = 1 ∧ 6 ≤ 0 ∧ 0 ≤ 11 ∨ p = p ∧ ¬ 0 = 1 ∨ p + 1 ≤ p ∧ p ≤ p + 8 by omega)
        have z_160 := PLc_h (w := x_val t nn (x_ns t nn a)) j_155 W156 (by omega) (by omega)
        refine to_an (pc := 38) rw_32_38 rfl (s_v (pc := 39) rw_32_39 (dp1 hd (by decide)) (ls0 := [.ref 1]) rfl (Nat.le_of_ble_eq_true rfl) (Nat.le_of_ble_eq_true rfl) rfl (to_rc rfl rfl rfl (g_o hG158 rfl)) rfl ?_)
        have j_161 := (CS_f (fun a i z => W_n W156 (by omega) rfl) (CS_f (tg_34 F139) p_132))
        have c_162 : M157.2.1 1 9 = (M134.2.1 1 9) := (W_n W156 (by omega) (F_n F139 (show ¬ (1 = 1 ∧ (9 = 10 ∨ 9 = 11)) by decide) rfl))
        have t_163 : (M157.2.1 1 9).toInt = (M134.2.1 1 9).toInt := congrArg Int32.toInt c_162
        refine E_83 hX (dp2 hd (by decide)) hG158 j_161 (by omega) (t := t) (nn := nn) (a := (x_ns t nn a)) (fun M168 hG165 F164 p_166 p_167 => ?_)
        have F169 := FR.c F159 F164 (fun a i z => show a = 1 ∧ 6 ≤ i ∧ i ≤ 11 ∨ a = p ∧ ¬ i = 1 ∨ p + 1 ≤ a ∧ a ≤ p + 8 by have z : a = 1 ∧ 6 ≤ i ∧ i ≤ 9 := z; omega)
        refine to_c (pc := 42) rw_32_42 (x := (1 : Int32)) rfl rfl (s_r1 (pc := 43) rw_32_43 (A := 1) rfl (by decide) (s_r1 (pc := 14) rw_31_14 (A := 1) rfl (by decide) ?_))
        have k_170 : (1 : Int32).toInt = 1 := rfl
        have j_171 := (PLc_f (fun a i z => F_n F164 (show ¬ (a = 1 ∧ 6 ≤ i ∧ i ≤ 9) by omega) rfl) (F_nl F164 (show ¬ (p = 1 ∧ 6 ≤ 4 ∧ 4 ≤ 9) by omega) rfl) z_160)
        have j_172 := (CW_f (fun k hk9 => F_nl F164 (show ¬ ((p + 8) = 1 ∧ 6 ≤ k ∧ k ≤ 9) by omega) rfl) (CW_f (fun k hk9 => W_j W156 rfl) (CW_f (fun k hk9 => F_nl F139 (show ¬ ((p + 8) = 1 ∧ (k = 10 ∨ k = 11)) by omega) rfl) (CW_f (fun k hk9 => F_nl F130 (show ¬ ((p + 8) = 1 ∧ 6 ≤ k ∧ k ≤ 9) by omega) rfl) (CW_f (fun k hk9 => F_nl F17 (show ¬ ((p + 8) < 0) by omega) rfl) q4)))))
        exact h (1 : Int32) M168 hG165 F169 (by decide) (by decide) p_166 (fun z => absurd z (by decide)) (fun _ => Or.inl ⟨(x_val t nn (x_ns t nn a), sg.2), (by rw [show (M168.2.1 1 9).toInt = (x_ns t nn (x_ns t nn a)) by omega]; exact (x_line_h (by omega) (by omega) (by omega)).trans (x_holes_y (by omega))), ⟨j_171, j_172⟩, fun _ => rfl, fun z => by exfalso; omega⟩)
    · refine to_an (pc := 7) rw_32_7 rfl (to_c (pc := 8) rw_32_8 (x := (3 : Int32)) rfl rfl (s_v (pc := 9) rw_32_9 (dp1 hd (by decide)) (ls0 := [.ref 1, .int (3 : Int32)]) rfl (Nat.le_of_ble_eq_true rfl) (Nat.le_of_ble_eq_true rfl) rfl (to_rc rfl rfl rfl (g_o hG18 rfl)) rfl (to_an (pc := 0) rw_84_0 rfl (to_in (pc := 1) rw_84_1 rfl (s_pI (pc := 2) rw_84_2 hG18 rfl (fun M174 W173 => ?_))))))
      have hG175 := g_wf hG18 W173 rfl rfl (by decide)
      have F176 := FR.w F24 W173 (show 1 = 1 ∧ 6 ≤ 10 ∧ 10 ≤ 11 ∨ 1 = p ∧ ¬ 10 = 1 ∨ p + 1 ≤ 1 ∧ 1 ≤ p + 8 by omega)
      refine to_an (pc := 5) rw_84_5 rfl (to_an (pc := 6) rw_84_6 rfl ?_)
      have c_177 : M174.2.1 1 9 = (M.2.1 1 9) := (W_n W173 (by decide) (F_n F17 (show ¬ (1 < 0) by decide) rfl))
      refine tt_gI (pc := 7) rw_84_7 (g_o hG175 rfl) (v := (M.2.1 1 9)) c_177 (s_pI (pc := 10) rw_84_10 hG175 rfl (fun M179 W178 => ?_))
      have hG180 := g_wf hG175 W178 rfl rfl (by decide)
      have F181 := FR.w F176 W178 (show 1 = 1 ∧ 6 ≤ 11 ∧ 11 ≤ 11 ∨ 1 = p ∧ ¬ 11 = 1 ∨ p + 1 ≤ 1 ∧ 1 ≤ p + 8 by omega)
      refine to_c (pc := 13) rw_84_13 (x := (0 : Int32)) rfl rfl (s_r1 (pc := 14) rw_84_14 (A := 0) rfl (by decide) (s_r1 (pc := 12) rw_32_12 (A := 0) rfl (by decide) (s_r1 (pc := 14) rw_31_14 (A := 0) rfl (by decide) ?_)))
      have k_182 : (0 : Int32).toInt = 0 := rfl
      have j_183 := (CS_f (fun a i z => W_n W178 (tg_32 a i z) rfl) (CS_f (fun a i z => W_n W173 (tg_33 a i z) rfl) (CS_f (tg_28 F17) q1)))
      exact h (0 : Int32) M179 hG180 F181 (by decide) (by decide) j_183 (fun _ => by first | exact x_line_n (by omega) | exact x_line_t (by omega) (by omega) | exact (if g9 : x_kind t nn a = 1 then x_line_t (by omega) (by omega) else x_line_n (by omega)) | exact (x_line_h (by omega) (by omega) (by omega)).trans (x_holes_n (by omega))) (fun z => by exfalso; omega)
set_option maxRecDepth 4000 in
set_option maxHeartbeats 0 in
theorem U_30_0 {X : mm_X} {d : Nat} {M : mm_M} {Q : Option Value → mm_M → Prop} {p : Nat} {t : Nat → Int} {nn : Int} {a : Int} (hX : g_X X) (hd : 5 ≤ d) (hp : p = 49 ∨ p = 58) (q1 : CS M t nn) (q2 : (M.2.1 1 9).toInt = a) (h : ∀ (r : Int32) (M1 : mm_M), g_G M1 → FR (md_r30 p) M M1 → (0 ≤ r.toInt) → (r.toInt ≤ 1) → CS M1 t nn → (r.toInt = 1 → 0 ≤ (M1.2.1 p 1).toInt) → ((r.toInt = 0 → x_plan t nn 23 0 x_s0 a = none)) → ((r.toInt = 1 → ROK (x_plan t nn 23 0 x_s0 a) M1 p)) → Q (some (.int r)) M1) : ∀ nn9 : Nat, (∀ (N : mm_M) (x2 : Int32), g_G N → FR (md_r30 p) M N → (0 ≤ x2.toInt) → (x2.toInt ≤ 22) → ((N.2.1 p 1).toInt = x2.toInt) → (0 ≤ (N.2.1 p 1).toInt) → ((N.2.1 p 1).toInt ≤ 22) → (CS N t nn) → (IVc t nn (x_plan t nn 23 0 x_s0 a) N p x2.toInt (N.2.1 1 9).toInt) → 22 - x2.toInt < (nn9 : Int) → mm_T X d 30 28 [.ref p, .ref 1, .int x2] [] N Q) := by
  intro nn9
  induction nn9 with
  | zero =>
    intro N x2 hG F0 g1 g2 g3 g4 g5 g6 g7 hm
    exfalso; omega
  | succ nn9 ih =>
    intro N x2 hG F0 g1 g2 g3 g4 g5 g6 g7 hm
    obtain ⟨sg, i_1, i_2, i_3, i_4⟩ := g7
    have i_5 : x2.toInt ≤ 21 := by have q1 : sg.2.1 ≤ 8 := i_1.1.1.2.2.2.1; have q2 : sg.2.2.1 ≤ 12 := i_1.1.1.2.2.2.2.2.1; rcases (show x2.toInt = 0 ∨ 0 < x2.toInt by omega) with z | z; omega; have := i_4 z; omega
    have z_1 := i_1.1.2.1
    have z_2 := i_1.1.2.2.1
    have z_3 := i_1.1.2.2.2.1
    have z_4 := i_1.1.1
    have z_5 := z_4.1
    have z_6 := z_4.2.1
    have z_7 := z_4.2.2.1
    have z_8 := z_4.2.2.2.1
    have z_9 := z_4.2.2.2.2.1
    have z_10 := z_4.2.2.2.2.2.1
    have b_11 := g_b hG (a := p) (i := 2) (lo := 0) (hi := 8) (by rcases hp with rfl | rfl <;> rfl) (by rcases hp with rfl | rfl <;> rfl)
    have b_12 := g_b hG (a := p) (i := 3) (lo := 0) (hi := 12) (by rcases hp with rfl | rfl <;> rfl) (by rcases hp with rfl | rfl <;> rfl)
    refine to_in (pc := 28) rw_30_28 rfl (to_c (pc := 29) rw_30_29 (x := (21 : Int32)) rfl rfl (b_cgt (pc := 31) rw_30_31 (A := x2.toInt) (B := 21) rfl rfl (fun h13 => ?_) (fun h13 => ?_)))
    · refine to_c (pc := 76) rw_30_76 (x := (1 : Int32)) rfl rfl (s_r1 (pc := 77) rw_30_77 (A := 1) rfl (by decide) ?_)
      have k_14 : (1 : Int32).toInt = 1 := rfl
      exact h (1 : Int32) N hG F0 (by decide) (by decide) g6 (by omega) (fun z => absurd z (by decide)) (fun _ => by first | exact IVc_e (by omega) i_2 (by omega) ⟨i_1.1, i_1.2⟩ (by omega) | (exfalso; omega))
    · refine to_an (pc := 34) rw_30_34 rfl ?_
      have c_15 := CS_u g6 (a := (N.2.1 1 9).toInt) (by omega)
      unfold x_C at c_15
      refine tt_gI (pc := 35) rw_30_35 (g_o hG rfl) (v := (N.2.1 1 7)) rfl (b_ieq (pc := 38) rw_30_38 (A := (N.2.1 1 7).toInt) rfl (fun h16 => ?_) (fun h16 => ?_))
      · refine to_c (pc := 76) rw_30_76 (x := (1 : Int32)) rfl rfl (s_r1 (pc := 77) rw_30_77 (A := 1) rfl (by decide) ?_)
        have k_17 : (1 : Int32).toInt = 1 := rfl
        exact h (1 : Int32) N hG F0 (by decide) (by decide) g6 (by omega) (fun z => absurd z (by decide)) (fun _ => by first | exact IVc_e (by omega) i_2 (by omega) ⟨i_1.1, i_1.2⟩ (by omega) | (exfalso; omega))
      · refine to_an (pc := 41) rw_30_41 rfl (to_an (pc := 42) rw_30_42 rfl (s_v (pc := 43) rw_30_43 (dp0 hd (by decide)) (ls0 := [.ref p, .ref 1]) rfl (Nat.le_of_ble_eq_true rfl) (Nat.le_of_ble_eq_true rfl) rfl (to_rc rfl rfl rfl (g_o hG (by rcases hp with rfl | rfl <;> rfl))) rfl (E_31 hX (dp1 hd (by decide)) hG hp g6 (by omega) i_1.1 i_1.2 (by omega) (by omega) (p := p) (t := t) (nn := nn) (a := (N.2.1 1 9).toInt) (sg := sg) (k := (x_kk t nn (22 - x2.toInt).toNat x2.toInt)) (L := x2.toInt) (fun r18 M26 hG20 F19 p_21 p_22 p_23 p_24 p_25 => ?_))))
        have F27 := FR.c F0 F19 (fun a i z => show a = 1 ∧ 6 ≤ i ∧ i ≤ 11 ∨ p ≤ a ∧ a ≤ p + 8 by have z : a = 1 ∧ 6 ≤ i ∧ i ≤ 11 ∨ a = p ∧ ¬ i = 1 ∨ p + 1 ≤ a ∧ a ≤ p + 8 := z; omega)
        rcases (show r18.toInt = 0 ∨ r18.toInt = 1 by omega) with h28 | h28
        · skip
          have p_29 := p_24 (by omega)
          clear p_24 p_25
          refine b_ieq_t (pc := 46) rw_30_46 (A := r18.toInt) rfl (by omega) (to_c (pc := 58) rw_30_58 (x := (0 : Int32)) rfl rfl (s_r1 (pc := 59) rw_30_59 (A := 0) rfl (by decide) ?_))
          have k_30 : (0 : Int32).toInt = 0 := rfl
          have c_31 : M26.2.1 p 1 = (N.2.1 p 1) := (F_n F19 (show ¬ (p = 1 ∧ 6 ≤ 1 ∧ 1 ≤ 11 ∨ p = p ∧ ¬ 1 = 1 ∨ p + 1 ≤ p ∧ p ≤ p + 8) by omega) rfl)
          have t_32 : (M26.2.1 p 1).toInt = (N.2.1 p 1).toInt := congrArg Int32.toInt c_31
          exact h (0 : Int32) M26 hG20 F27 (by decide) (by decide) p_23 (by omega) (fun _ => IVc_l (by omega) (by omega) i_2 (by omega) p_29) (fun z => absurd z (by decide))
        · skip
          have p_33 := p_25 (by omega)
          clear p_24 p_25
          refine b_ieq_f (pc := 46) rw_30_46 (A := r18.toInt) rfl (by omega) (to_an (pc := 49) rw_30_49 rfl (to_c (pc := 50) rw_30_50 (x := (59 : Int32)) rfl rfl (s_v (pc := 52) rw_30_52 (dp0 hd (by decide)) (ls0 := [.ref 1, .int (59 : Int32)]) rfl (Nat.le_of_ble_eq_true rfl) (Nat.le_of_ble_eq_true rfl) rfl (to_rc rfl rfl rfl (g_o hG20 rfl)) rfl ?_)))
          have k_34 : (59 : Int32).toInt = 59 := rfl
          refine E_90 hX (dp1 hd (by decide)) hG20 p_23 (by omega) (by omega) (c := (59 : Int32)) (t := t) (nn := nn) (a := (M26.2.1 1 9).toInt) (fun r35 M43 hG37 F36 p_38 p_39 p_40 p_41 p_42 => ?_)
          have F44 := FR.c F27 F36 (fun a i z => show a = 1 ∧ 6 ≤ i ∧ i ≤ 11 ∨ p ≤ a ∧ a ≤ p + 8 by have z : a = 1 ∧ 6 ≤ i ∧ i ≤ 11 := z; omega)
          rcases (show r35.toInt = 0 ∨ r35.toInt = 1 by omega) with h45 | h45
          · skip
            have p_46 := p_42 (by omega)
            clear p_41 p_42
            refine b_ine_f (pc := 55) rw_30_55 (A := r35.toInt) rfl (by omega) (to_c (pc := 58) rw_30_58 (x := (0 : Int32)) rfl rfl (s_r1 (pc := 59) rw_30_59 (A := 0) rfl (by decide) ?_))
            have k_47 : (0 : Int32).toInt = 0 := rfl
            have c_48 : M43.2.1 p 1 = (N.2.1 p 1) := (F_n F36 (show ¬ (p = 1 ∧ 6 ≤ 1 ∧ 1 ≤ 11) by omega) (F_n F19 (show ¬ (p = 1 ∧ 6 ≤ 1 ∧ 1 ≤ 11 ∨ p = p ∧ ¬ 1 = 1 ∨ p + 1 ≤ p ∧ p ≤ p + 8) by omega) rfl))
            have t_49 : (M43.2.1 p 1).toInt = (N.2.1 p 1).toInt := congrArg Int32.toInt c_48
            exact h (0 : Int32) M43 hG37 F44 (by decide) (by decide) p_40 (by omega) (fun _ => IVc_n (by omega) (by omega) i_2 (by omega) p_33 rfl (by omega)) (fun z => absurd z (by decide))
          · skip
            have p_50 := p_41 (by omega)
            clear p_41 p_42
            refine b_ine_t (pc := 55) rw_30_55 (A := r35.toInt) rfl (by omega) (to_an (pc := 60) rw_30_60 rfl (to_dupr (pc := 61) rw_30_61 ?_))
            have c_51 : M43.2.1 p 1 = (N.2.1 p 1) := (F_n F36 (show ¬ (p = 1 ∧ 6 ≤ 1 ∧ 1 ≤ 11) by omega) (F_n F19 (show ¬ (p = 1 ∧ 6 ≤ 1 ∧ 1 ≤ 11 ∨ p = p ∧ ¬ 1 = 1 ∨ p + 1 ≤ p ∧ p ≤ p + 8) by omega) rfl))
            refine tt_gI (pc := 62) rw_30_62 (g_o hG37 (by rcases hp with rfl | rfl <;> rfl)) (v := (N.2.1 p 1)) c_51 (to_c (pc := 65) rw_30_65 (x := (1 : Int32)) rfl rfl (s_add (pc := 66) rw_30_66 (A := (N.2.1 p 1).toInt) (B := 1) rfl rfl (by omega) (fun v52 e53 => s_pI (pc := 67) rw_30_67 hG37 (by rcases hp with rfl | rfl <;> rfl) (fun M55 W54 => ?_))))
            have hG56 := g_wf hG37 W54 (by rcases hp with rfl | rfl <;> rfl) (by rcases hp with rfl | rfl <;> rfl) (by omega)
            have F57 := FR.w F44 W54 (show p = 1 ∧ 6 ≤ 1 ∧ 1 ≤ 11 ∨ p ≤ p ∧ p ≤ p + 8 by omega)
            refine s_inc (pc := 70) rw_30_70 (ls2 := fun v => [.ref p, .ref 1, .int v]) rfl rfl (fun _ => rfl) (A := x2.toInt) (B := 1) rfl rfl (by omega) (fun v58 e59 => to_go (pc := 73) rw_30_73 ?_)
            have c_60 : M55.2.1 p 1 = v52 := (W_e W54)
            have t_61 : (M55.2.1 p 1).toInt = v52.toInt := congrArg Int32.toInt c_60
            have j_62 := (CS_f (fun a i z => W_n W54 (by omega) rfl) p_40)
            have c_63 : M55.2.1 1 9 = (M43.2.1 1 9) := (W_n W54 (by omega) rfl)
            have t_64 : (M55.2.1 1 9).toInt = (M43.2.1 1 9).toInt := congrArg Int32.toInt c_63
            have tr_65 : ∀ s9 : x_S, PLc2 M26 p s9 → PLc2 M55 p s9 := fun s9 h9 => ⟨PLc_f (fun a i z => (W_n W54 (by omega) (F_n F36 (show ¬ (a = 1 ∧ 6 ≤ i ∧ i ≤ 11) by omega) rfl))) (W_j W54 (F_nl F36 (show ¬ (p = 1 ∧ 6 ≤ 4 ∧ 4 ≤ 11) by omega) rfl)) h9.1, CW_f (fun k hk9 => (W_j W54 (F_nl F36 (show ¬ ((p + 8) = 1 ∧ 6 ≤ k ∧ k ≤ 11) by omega) rfl))) h9.2⟩
            exact ih M55 v58 hG56 F57 (by omega) (by omega) (by omega) (by omega) (by omega) j_62 (IVc_s (by omega) (by omega) i_2 (by omega) i_3 i_4 p_33 rfl (by omega) (by omega) (by omega) tr_65) (by omega)
set_option maxRecDepth 4000 in
set_option maxHeartbeats 0 in
theorem E_30 {X : mm_X} {d : Nat} {M : mm_M} {Q : Option Value → mm_M → Prop} {p : Nat} {t : Nat → Int} {nn : Int} {a : Int} (hX : g_X X) (hd : 5 ≤ d) (hG : g_G M) (hp : p = 49 ∨ p = 58) (q1 : CS M t nn) (q2 : (M.2.1 1 9).toInt = a) (h : ∀ (r : Int32) (M1 : mm_M), g_G M1 → FR (md_r30 p) M M1 → (0 ≤ r.toInt) → (r.toInt ≤ 1) → CS M1 t nn → (r.toInt = 1 → 0 ≤ (M1.2.1 p 1).toInt) → ((r.toInt = 0 → x_plan t nn 23 0 x_s0 a = none)) → ((r.toInt = 1 → ROK (x_plan t nn 23 0 x_s0 a) M1 p)) → Q (some (.int r)) M1) : mm_T X d 30 0 [.ref p, .ref 1, .null] [] M Q := by
  have F0 : FR (md_r30 p) M M := FR.rf
  refine to_an (pc := 0) rw_30_0 rfl (to_c (pc := 1) rw_30_1 (x := (10 : Int32)) rfl rfl (s_pI (pc := 3) rw_30_3 hG (by rcases hp with rfl | rfl <;> rfl) (fun M67 W66 => ?_)))
  have hG68 := g_w hG W66 (A := 10) rfl (lo := 10) (hi := 60) (by rcases hp with rfl | rfl <;> rfl) (by rcases hp with rfl | rfl <;> rfl) (by omega) (by omega)
  have F69 := FR.w F0 W66 (show p = 1 ∧ 6 ≤ 0 ∧ 0 ≤ 11 ∨ p ≤ p ∧ p ≤ p + 8 by omega)
  refine to_an (pc := 6) rw_30_6 rfl (to_c (pc := 7) rw_30_7 (x := (0 : Int32)) rfl rfl (s_pI (pc := 8) rw_30_8 hG68 (by rcases hp with rfl | rfl <;> rfl) (fun M71 W70 => ?_)))
  have hG72 := g_wf hG68 W70 (by rcases hp with rfl | rfl <;> rfl) (by rcases hp with rfl | rfl <;> rfl) (by omega)
  have F73 := FR.w F69 W70 (show p = 1 ∧ 6 ≤ 1 ∧ 1 ≤ 11 ∨ p ≤ p ∧ p ≤ p + 8 by omega)
  refine to_an (pc := 11) rw_30_11 rfl (to_c (pc := 12) rw_30_12 (x := (0 : Int32)) rfl rfl (s_pI (pc := 13) rw_30_13 hG72 (by rcases hp with rfl | rfl <;> rfl) (fun M75 W74 => ?_)))
  have hG76 := g_w hG72 W74 (A := 0) rfl (lo := 0) (hi := 8) (by rcases hp with rfl | rfl <;> rfl) (by rcases hp with rfl | rfl <;> rfl) (by omega) (by omega)
  have F77 := FR.w F73 W74 (show p = 1 ∧ 6 ≤ 2 ∧ 2 ≤ 11 ∨ p ≤ p ∧ p ≤ p + 8 by omega)
  refine to_an (pc := 16) rw_30_16 rfl (to_c (pc := 17) rw_30_17 (x := (0 : Int32)) rfl rfl (s_pI (pc := 18) rw_30_18 hG76 (by rcases hp with rfl | rfl <;> rfl) (fun M79 W78 => ?_)))
  have hG80 := g_w hG76 W78 (A := 0) rfl (lo := 0) (hi := 12) (by rcases hp with rfl | rfl <;> rfl) (by rcases hp with rfl | rfl <;> rfl) (by omega) (by omega)
  have F81 := FR.w F77 W78 (show p = 1 ∧ 6 ≤ 3 ∧ 3 ≤ 11 ∨ p ≤ p ∧ p ≤ p + 8 by omega)
  refine to_an (pc := 21) rw_30_21 rfl (to_cl (pc := 22) rw_30_22 rfl (x := (0 : Int64)) rfl (s_pJ (pc := 23) rw_30_23 hG80 (by rcases hp with rfl | rfl <;> rfl) (fun M83 W82 => ?_)))
  have hG84 := g_wl hG80 W82
  have F85 := FR.wl F81 W82 (show p = 1 ∧ 6 ≤ 4 ∧ 4 ≤ 11 ∨ p ≤ p ∧ p ≤ p + 8 by omega)
  refine to_c (pc := 26) rw_30_26 (x := (0 : Int32)) rfl rfl (to_isn (pc := 27) rw_30_27 (ls2 := [.ref p, .ref 1, .int (0 : Int32)]) rfl rfl ?_)
  have k_86 : (0 : Int32).toInt = 0 := rfl
  have c_87 : M83.2.1 p 1 = (0 : Int32) := (W_l W82 (W_n W78 (by omega) (W_n W74 (by omega) (W_e W70))))
  have t_88 : (M83.2.1 p 1).toInt = (0 : Int32).toInt := congrArg Int32.toInt c_87
  have j_89 := (CS_f (fun a i z => W_l W82 rfl) (CS_f (fun a i z => W_n W78 (by omega) rfl) (CS_f (fun a i z => W_n W74 (by omega) rfl) (CS_f (fun a i z => W_n W70 (by omega) rfl) (CS_f (fun a i z => W_n W66 (by omega) rfl) q1)))))
  have c_90 : M83.2.1 1 9 = (M.2.1 1 9) := (W_l W82 (W_n W78 (by omega) (W_n W74 (by omega) (W_n W70 (by omega) (W_n W66 (by omega) rfl)))))
  have t_91 : (M83.2.1 1 9).toInt = (M.2.1 1 9).toInt := congrArg Int32.toInt c_90
  have c_92 : M83.2.1 p 0 = (10 : Int32) := (W_l W82 (W_n W78 (by omega) (W_n W74 (by omega) (W_n W70 (by omega) (W_e W66)))))
  have k_93 : (10 : Int32).toInt = 10 := rfl
  have t_94 : (M83.2.1 p 0).toInt = (10 : Int32).toInt := congrArg Int32.toInt c_92
  have c_95 : M83.2.1 p 2 = (0 : Int32) := (W_l W82 (W_n W78 (by omega) (W_e W74)))
  have t_96 : (M83.2.1 p 2).toInt = (0 : Int32).toInt := congrArg Int32.toInt c_95
  have c_97 : M83.2.1 p 3 = (0 : Int32) := (W_l W82 (W_e W78))
  have t_98 : (M83.2.1 p 3).toInt = (0 : Int32).toInt := congrArg Int32.toInt c_97
  exact (U_30_0 (p := p) (t := t) (nn := nn) (a := a) hX hd hp q1 q2 h ((22 - (0 : Int32).toInt).toNat + 1)) M83 (0 : Int32) hG84 F85 (by omega) (by omega) (by omega) (by omega) (by omega) j_89 (IVc_0 ⟨PLc_0 (by omega) (by omega) (by omega) (L_e W82), CW_0⟩ (by omega) (by omega)) (by omega)
