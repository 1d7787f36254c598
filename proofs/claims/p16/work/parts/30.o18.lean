theorem tg_307 : ∀ a i : Nat, (a = 77 ∧ (i = 59 ∨ i = 65 ∨ i = 66) ∨ 112 ≤ a ∧ a ≤ 114 ∧ 40 ≤ i ∨ a = 116) → (a = 77 ∧ (i = 4 ∨ i = 5 ∨ 7 ≤ i ∧ i ≤ 10) ∨ a = 77 ∧ (i = 59 ∨ 65 ≤ i ∧ i ≤ 69) ∨ 112 ≤ a ∧ a ≤ 114 ∧ 40 ≤ i ∨ a = 115 ∨ a = 116) := fun a i z => by omega
theorem tg_308 : ∀ a i : Nat, (a = 77 ∧ 7 ≤ i ∧ i ≤ 10) → (a = 77 ∧ (i = 4 ∨ i = 5 ∨ 7 ≤ i ∧ i ≤ 10) ∨ a = 77 ∧ (i = 59 ∨ 65 ≤ i ∧ i ≤ 69) ∨ 112 ≤ a ∧ a ≤ 114 ∧ 40 ≤ i ∨ a = 115 ∨ a = 116) := fun a i z => by omega
set_option maxRecDepth 4000 in
set_option maxHeartbeats 0 in
theorem C_226 {X : mm_X} {d : Nat} {M : mm_M} {Q : Option Value → mm_M → Prop} (hX : g_X X) (hd : 2 ≤ d) (hG : g_G M) (q1 : (M.2.1 77 7).toInt ≤ (M.2.1 77 6).toInt) (q2 : QK M) (q3 : (M.2.1 77 68).toInt = 1) (h : ∀ (r : Int32) (M1 : mm_M), g_G M1 → FR md_qr M M1 → (0 ≤ r.toInt) → (r.toInt ≤ 1) → ((M1.2.1 77 7).toInt ≤ (M1.2.1 77 6).toInt) → ((M.2.1 77 7).toInt ≤ (M1.2.1 77 7).toInt) → (r.toInt = 1 → (M1.2.1 77 8).toInt = 0 ∨ (M.2.1 77 7).toInt < (M1.2.1 77 7).toInt) → (r.toInt = 1 → ¬ (M.2.1 77 8).toInt = 0) → (r.toInt = 1 → QK M1) → Q (some (.int r)) M1) : mm_T X d 225 0 [.ref 77, .null] [] M Q := by
  have F0 : FR md_qr M M := FR.rf
  have b_1 := g_b hG (a := 77) (i := 7) (lo := 0) (hi := 500) rfl rfl
  have b_2 := g_b hG (a := 77) (i := 6) (lo := 0) (hi := 500) rfl rfl
  have b_3 := g_b hG (a := 77) (i := 68) (lo := 0) (hi := 1) rfl rfl
  have b_4 := g_b hG (a := 77) (i := 59) (lo := 0) (hi := 40) rfl rfl
  have b_5 := g_b hG (a := 77) (i := 65) (lo := 0) (hi := 48) rfl rfl
  have b_6 := g_b hG (a := 77) (i := 66) (lo := 0) (hi := 40) rfl rfl
  have b_7 := g_b hG (a := 77) (i := 67) (lo := 0) (hi := 8) rfl rfl
  have b_8 := g_b hG (a := 77) (i := 69) (lo := 0) (hi := 40) rfl rfl
  have s_9 := QK_e q2
  have s_10 := Wx_b M ((M.2.1 77 65).toInt).toNat
  refine to_an (pc := 0) rw_226_0 rfl (to_c (pc := 1) rw_226_1 (x := (12 : Int32)) rfl rfl (s_v (pc := 3) rw_226_3 (dp0 hd (by decide)) (ls0 := [.ref 77, .int (12 : Int32)]) rfl (Nat.le_of_ble_eq_true rfl) (Nat.le_of_ble_eq_true rfl) rfl (to_rc rfl rfl rfl (g_o hG rfl)) rfl (to_an (pc := 0) rw_158_0 rfl ?_)))
  have b_11 := g_b hG (a := 77) (i := 8) (lo := 0) (hi := 5) rfl rfl
  refine tt_gI (pc := 1) rw_158_1 (g_o hG rfl) (v := (M.2.1 77 8)) rfl (to_c (pc := 4) rw_158_4 (x := (1 : Int32)) rfl rfl (b_cne (pc := 5) rw_158_5 (A := (M.2.1 77 8).toInt) (B := 1) rfl rfl (fun h12 => ?_) (fun h12 => ?_)))
  · refine to_c (pc := 20) rw_158_20 (x := (0 : Int32)) rfl rfl (s_r1 (pc := 21) rw_158_21 (A := 0) rfl (by decide) (b_ine_f (pc := 6) rw_226_6 (A := 0) rfl (by decide) (to_an (pc := 9) rw_226_9 rfl (to_c (pc := 10) rw_226_10 (x := (13 : Int32)) rfl rfl (s_v (pc := 12) rw_226_12 (dp0 hd (by decide)) (ls0 := [.ref 77, .int (13 : Int32)]) rfl (Nat.le_of_ble_eq_true rfl) (Nat.le_of_ble_eq_true rfl) rfl (to_rc rfl rfl rfl (g_o hG rfl)) rfl (to_an (pc := 0) rw_158_0 rfl (tt_gI (pc := 1) rw_158_1 (g_o hG rfl) (v := (M.2.1 77 8)) rfl (to_c (pc := 4) rw_158_4 (x := (1 : Int32)) rfl rfl (b_cne (pc := 5) rw_158_5 (A := (M.2.1 77 8).toInt) (B := 1) rfl rfl (fun h13 => ?_) (fun h13 => ?_))))))))))
    · refine to_c (pc := 20) rw_158_20 (x := (0 : Int32)) rfl rfl (s_r1 (pc := 21) rw_158_21 (A := 0) rfl (by decide) (b_ieq_t (pc := 15) rw_226_15 (A := 0) rfl (by decide) (to_an (pc := 82) rw_226_82 rfl (to_c (pc := 83) rw_226_83 (x := (41 : Int32)) rfl rfl (s_v (pc := 85) rw_226_85 (dp0 hd (by decide)) (ls0 := [.ref 77, .int (41 : Int32)]) rfl (Nat.le_of_ble_eq_true rfl) (Nat.le_of_ble_eq_true rfl) rfl (to_rc rfl rfl rfl (g_o hG rfl)) rfl (to_an (pc := 0) rw_159_0 rfl (tt_gI (pc := 1) rw_159_1 (g_o hG rfl) (v := (M.2.1 77 8)) rfl (to_c (pc := 4) rw_159_4 (x := (4 : Int32)) rfl rfl (b_cne (pc := 5) rw_159_5 (A := (M.2.1 77 8).toInt) (B := 4) rfl rfl (fun h14 => ?_) (fun h14 => ?_))))))))))
      · refine to_c (pc := 20) rw_159_20 (x := (0 : Int32)) rfl rfl (s_r1 (pc := 21) rw_159_21 (A := 0) rfl (by decide) (b_ieq_t (pc := 88) rw_226_88 (A := 0) rfl (by decide) (to_an (pc := 98) rw_226_98 rfl (to_c (pc := 99) rw_226_99 (x := (1 : Int32)) rfl rfl (s_v (pc := 100) rw_226_100 (dp0 hd (by decide)) (ls0 := [.ref 77, .int (1 : Int32)]) rfl (Nat.le_of_ble_eq_true rfl) (Nat.le_of_ble_eq_true rfl) rfl (to_rc rfl rfl rfl (g_o hG rfl)) rfl (to_an (pc := 0) rw_152_0 rfl (to_in (pc := 1) rw_152_1 rfl (s_pI (pc := 2) rw_152_2 hG rfl (fun M16 W15 => ?_)))))))))
        have hG17 := g_wf hG W15 rfl rfl (by decide)
        have F18 := FR.w F0 W15 (show 77 = 77 ∧ (4 = 4 ∨ 4 = 5 ∨ 7 ≤ 4 ∧ 4 ≤ 10) ∨ 77 = 77 ∧ (4 = 59 ∨ 65 ≤ 4 ∧ 4 ≤ 69) ∨ 112 ≤ 77 ∧ 77 ≤ 114 ∧ 40 ≤ 4 ∨ 77 = 115 ∨ 77 = 116 by decide)
        refine to_an (pc := 5) rw_152_5 rfl (to_an (pc := 6) rw_152_6 rfl ?_)
        have c_19 : M16.2.1 77 10 = (M.2.1 77 10) := (W_n W15 (by decide) rfl)
        have b_20 := g_b hG (a := 77) (i := 10) (lo := 0) (hi := 500) rfl rfl
        refine tt_gI (pc := 7) rw_152_7 (g_o hG17 rfl) (v := (M.2.1 77 10)) c_19 (s_pI (pc := 10) rw_152_10 hG17 rfl (fun M22 W21 => ?_))
        have hG23 := g_wf hG17 W21 rfl rfl (by decide)
        have F24 := FR.w F18 W21 (show 77 = 77 ∧ (5 = 4 ∨ 5 = 5 ∨ 7 ≤ 5 ∧ 5 ≤ 10) ∨ 77 = 77 ∧ (5 = 59 ∨ 65 ≤ 5 ∧ 5 ≤ 69) ∨ 112 ≤ 77 ∧ 77 ≤ 114 ∧ 40 ≤ 5 ∨ 77 = 115 ∨ 77 = 116 by decide)
        refine to_c (pc := 13) rw_152_13 (x := (0 : Int32)) rfl rfl (s_r1 (pc := 14) rw_152_14 (A := 0) rfl (by decide) (s_r1 (pc := 103) rw_226_103 (A := 0) rfl (by decide) ?_))
        have k_25 : (0 : Int32).toInt = 0 := rfl
        have c_26 : M22.2.1 77 7 = (M.2.1 77 7) := (W_n W21 (by decide) (W_n W15 (by decide) rfl))
        have t_27 : (M22.2.1 77 7).toInt = (M.2.1 77 7).toInt := congrArg Int32.toInt c_26
        have c_28 : M22.2.1 77 6 = (M.2.1 77 6) := (W_n W21 (by decide) (W_n W15 (by decide) rfl))
        have t_29 : (M22.2.1 77 6).toInt = (M.2.1 77 6).toInt := congrArg Int32.toInt c_28
        have c_30 : M22.2.1 77 8 = (M.2.1 77 8) := (W_n W21 (by decide) (W_n W15 (by decide) rfl))
        have t_31 : (M22.2.1 77 8).toInt = (M.2.1 77 8).toInt := congrArg Int32.toInt c_30
        exact h (0 : Int32) M22 hG23 F24 (by decide) (by decide) (by omega) (by omega) (by omega) (by omega) (fun z => absurd z (by omega))
      · refine to_an (pc := 8) rw_159_8 rfl (tt_gI (pc := 9) rw_159_9 (g_o hG rfl) (v := (M.2.1 77 9)) rfl (to_in (pc := 12) rw_159_12 rfl (b_cne (pc := 13) rw_159_13 (A := (M.2.1 77 9).toInt) (B := 41) rfl rfl (fun h32 => ?_) (fun h32 => ?_))))
        · refine to_c (pc := 20) rw_159_20 (x := (0 : Int32)) rfl rfl (s_r1 (pc := 21) rw_159_21 (A := 0) rfl (by decide) (b_ieq_t (pc := 88) rw_226_88 (A := 0) rfl (by decide) (to_an (pc := 98) rw_226_98 rfl (to_c (pc := 99) rw_226_99 (x := (1 : Int32)) rfl rfl (s_v (pc := 100) rw_226_100 (dp0 hd (by decide)) (ls0 := [.ref 77, .int (1 : Int32)]) rfl (Nat.le_of_ble_eq_true rfl) (Nat.le_of_ble_eq_true rfl) rfl (to_rc rfl rfl rfl (g_o hG rfl)) rfl (to_an (pc := 0) rw_152_0 rfl (to_in (pc := 1) rw_152_1 rfl (s_pI (pc := 2) rw_152_2 hG rfl (fun M34 W33 => ?_)))))))))
          have hG35 := g_wf hG W33 rfl rfl (by decide)
          have F36 := FR.w F0 W33 (show 77 = 77 ∧ (4 = 4 ∨ 4 = 5 ∨ 7 ≤ 4 ∧ 4 ≤ 10) ∨ 77 = 77 ∧ (4 = 59 ∨ 65 ≤ 4 ∧ 4 ≤ 69) ∨ 112 ≤ 77 ∧ 77 ≤ 114 ∧ 40 ≤ 4 ∨ 77 = 115 ∨ 77 = 116 by decide)
          refine to_an (pc := 5) rw_152_5 rfl (to_an (pc := 6) rw_152_6 rfl ?_)
          have c_37 : M34.2.1 77 10 = (M.2.1 77 10) := (W_n W33 (by decide) rfl)
          have b_38 := g_b hG (a := 77) (i := 10) (lo := 0) (hi := 500) rfl rfl
          refine tt_gI (pc := 7) rw_152_7 (g_o hG35 rfl) (v := (M.2.1 77 10)) c_37 (s_pI (pc := 10) rw_152_10 hG35 rfl (fun M40 W39 => ?_))
          have hG41 := g_wf hG35 W39 rfl rfl (by decide)
          have F42 := FR.w F36 W39 (show 77 = 77 ∧ (5 = 4 ∨ 5 = 5 ∨ 7 ≤ 5 ∧ 5 ≤ 10) ∨ 77 = 77 ∧ (5 = 59 ∨ 65 ≤ 5 ∧ 5 ≤ 69) ∨ 112 ≤ 77 ∧ 77 ≤ 114 ∧ 40 ≤ 5 ∨ 77 = 115 ∨ 77 = 116 by decide)
          refine to_c (pc := 13) rw_152_13 (x := (0 : Int32)) rfl rfl (s_r1 (pc := 14) rw_152_14 (A := 0) rfl (by decide) (s_r1 (pc := 103) rw_226_103 (A := 0) rfl (by decide) ?_))
          have k_43 : (0 : Int32).toInt = 0 := rfl
          have c_44 : M40.2.1 77 7 = (M.2.1 77 7) := (W_n W39 (by decide) (W_n W33 (by decide) rfl))
          have t_45 : (M40.2.1 77 7).toInt = (M.2.1 77 7).toInt := congrArg Int32.toInt c_44
          have c_46 : M40.2.1 77 6 = (M.2.1 77 6) := (W_n W39 (by decide) (W_n W33 (by decide) rfl))
          have t_47 : (M40.2.1 77 6).toInt = (M.2.1 77 6).toInt := congrArg Int32.toInt c_46
          have c_48 : M40.2.1 77 8 = (M.2.1 77 8) := (W_n W39 (by decide) (W_n W33 (by decide) rfl))
          have t_49 : (M40.2.1 77 8).toInt = (M.2.1 77 8).toInt := congrArg Int32.toInt c_48
          exact h (0 : Int32) M40 hG41 F42 (by decide) (by decide) (by omega) (by omega) (by omega) (by omega) (fun z => absurd z (by omega))
        · refine to_c (pc := 16) rw_159_16 (x := (1 : Int32)) rfl rfl (to_go (pc := 17) rw_159_17 (s_r1 (pc := 21) rw_159_21 (A := 1) rfl (by decide) (b_ieq_f (pc := 88) rw_226_88 (A := 1) rfl (by decide) (to_an (pc := 91) rw_226_91 rfl (tt_gI (pc := 92) rw_226_92 (g_o hG rfl) (v := (M.2.1 77 67)) rfl (b_ine (pc := 95) rw_226_95 (A := (M.2.1 77 67).toInt) rfl (fun h50 => ?_) (fun h50 => ?_)))))))
          · refine to_an (pc := 104) rw_226_104 rfl (to_c (pc := 105) rw_226_105 (x := (1 : Int32)) rfl rfl (s_v (pc := 106) rw_226_106 (dp0 hd (by decide)) (ls0 := [.ref 77, .int (1 : Int32), .null, .null, .null]) rfl (Nat.le_of_ble_eq_true rfl) (Nat.le_of_ble_eq_true rfl) rfl (to_rc rfl rfl rfl (g_o hG rfl)) rfl ?_))
            have k_51 : (1 : Int32).toInt = 1 := rfl
            refine C_223 hX (dp1 hd (by decide)) hG (by omega) (by omega) (by omega) q2 (l := (1 : Int32)) (fun M58 hG54 F53 p_55 p_56 p_57 => ?_)
            have F59 := FR.c F0 F53 tg_307
            have s_60 := p_56
            have b_61 := g_b hG54 (a := 77) (i := 59) (lo := 0) (hi := 40) rfl rfl
            have b_62 := g_b hG54 (a := 77) (i := 65) (lo := 0) (hi := 48) rfl rfl
            have b_63 := g_b hG54 (a := 77) (i := 66) (lo := 0) (hi := 40) rfl rfl
            have c_64 : M58.2.1 77 67 = (M.2.1 77 67) := (F_n F53 (show ¬ (77 = 77 ∧ (67 = 59 ∨ 67 = 65 ∨ 67 = 66) ∨ 112 ≤ 77 ∧ 77 ≤ 114 ∧ 40 ≤ 67 ∨ 77 = 116) by decide) rfl)
            have t_65 : (M58.2.1 77 67).toInt = (M.2.1 77 67).toInt := congrArg Int32.toInt c_64
            have c_66 : M58.2.1 77 68 = (M.2.1 77 68) := (F_n F53 (show ¬ (77 = 77 ∧ (68 = 59 ∨ 68 = 65 ∨ 68 = 66) ∨ 112 ≤ 77 ∧ 77 ≤ 114 ∧ 40 ≤ 68 ∨ 77 = 116) by decide) rfl)
            have t_67 : (M58.2.1 77 68).toInt = (M.2.1 77 68).toInt := congrArg Int32.toInt c_66
            have c_68 : M58.2.1 77 69 = (M.2.1 77 69) := (F_n F53 (show ¬ (77 = 77 ∧ (69 = 59 ∨ 69 = 65 ∨ 69 = 66) ∨ 112 ≤ 77 ∧ 77 ≤ 114 ∧ 40 ≤ 69 ∨ 77 = 116) by decide) rfl)
            have t_69 : (M58.2.1 77 69).toInt = (M.2.1 77 69).toInt := congrArg Int32.toInt c_68
            have s_70 := QK_e p_55
            have s_71 := Wx_b M58 ((M58.2.1 77 65).toInt).toNat
            have s_t := p_57 rfl
            have s_n := p_55.2.1 (((M58.2.1 77 65).toInt).toNat - 1)
            have s_s := Wx_s M58 (((M58.2.1 77 65).toInt).toNat - 1)
            have s_p : 1 ≤ (M58.2.1 77 65).toInt := by omega
            rw [show ((M58.2.1 77 65).toInt).toNat - 1 + 1 = ((M58.2.1 77 65).toInt).toNat by omega] at s_s
            have s_n := s_n (by omega)
            have s_z : (M58.2.1 115 (((M58.2.1 77 65).toInt).toNat - 1)).toInt = 0 := by omega
            have s_s := s_s.1 s_z
            refine to_an (pc := 109) rw_226_109 rfl (to_dupr (pc := 110) rw_226_110 (tt_gI (pc := 111) rw_226_111 (g_o hG54 rfl) (v := (M58.2.1 77 65)) rfl (to_c (pc := 114) rw_226_114 (x := (1 : Int32)) rfl rfl (s_sub (pc := 115) rw_226_115 (A := (M58.2.1 77 65).toInt) (B := 1) rfl rfl (by omega) (fun v72 e73 => s_pI (pc := 116) rw_226_116 hG54 rfl (fun M75 W74 => ?_))))))
            have hG76 := g_w hG54 W74 (A := v72.toInt) rfl (lo := 0) (hi := 48) rfl rfl (by omega) (by decide)
            have F77 := FR.w F59 W74 (show 77 = 77 ∧ (65 = 4 ∨ 65 = 5 ∨ 7 ≤ 65 ∧ 65 ≤ 10) ∨ 77 = 77 ∧ (65 = 59 ∨ 65 ≤ 65 ∧ 65 ≤ 69) ∨ 112 ≤ 77 ∧ 77 ≤ 114 ∧ 40 ≤ 65 ∨ 77 = 115 ∨ 77 = 116 by decide)
            refine to_an (pc := 119) rw_226_119 rfl (to_dupr (pc := 120) rw_226_120 ?_)
            have c_78 : M75.2.1 77 67 = (M.2.1 77 67) := (W_n W74 (by decide) c_64)
            refine tt_gI (pc := 121) rw_226_121 (g_o hG76 rfl) (v := (M.2.1 77 67)) c_78 (to_c (pc := 124) rw_226_124 (x := (1 : Int32)) rfl rfl (s_sub (pc := 125) rw_226_125 (A := (M.2.1 77 67).toInt) (B := 1) rfl rfl (by omega) (fun v79 e80 => s_pI (pc := 126) rw_226_126 hG76 rfl (fun M82 W81 => ?_))))
            have hG83 := g_w hG76 W81 (A := v79.toInt) rfl (lo := 0) (hi := 8) rfl rfl (by omega) (by decide)
            have F84 := FR.w F77 W81 (show 77 = 77 ∧ (67 = 4 ∨ 67 = 5 ∨ 7 ≤ 67 ∧ 67 ≤ 10) ∨ 77 = 77 ∧ (67 = 59 ∨ 65 ≤ 67 ∧ 67 ≤ 69) ∨ 112 ≤ 77 ∧ 77 ≤ 114 ∧ 40 ≤ 67 ∨ 77 = 115 ∨ 77 = 116 by decide)
            refine to_an (pc := 129) rw_226_129 rfl (s_v (pc := 130) rw_226_130 (dp0 hd (by decide)) (ls0 := [.ref 77]) rfl (Nat.le_of_ble_eq_true rfl) (Nat.le_of_ble_eq_true rfl) rfl (to_rc rfl rfl rfl (g_o hG83 rfl)) rfl ?_)
            have c_85 : M82.2.1 77 7 = (M.2.1 77 7) := (W_n W81 (by decide) (W_n W74 (by decide) (F_n F53 (show ¬ (77 = 77 ∧ (7 = 59 ∨ 7 = 65 ∨ 7 = 66) ∨ 112 ≤ 77 ∧ 77 ≤ 114 ∧ 40 ≤ 7 ∨ 77 = 116) by decide) rfl)))
            have t_86 : (M82.2.1 77 7).toInt = (M.2.1 77 7).toInt := congrArg Int32.toInt c_85
            have c_87 : M82.2.1 77 6 = (M.2.1 77 6) := (W_n W81 (by decide) (W_n W74 (by decide) (F_n F53 (show ¬ (77 = 77 ∧ (6 = 59 ∨ 6 = 65 ∨ 6 = 66) ∨ 112 ≤ 77 ∧ 77 ≤ 114 ∧ 40 ≤ 6 ∨ 77 = 116) by decide) rfl)))
            have t_88 : (M82.2.1 77 6).toInt = (M.2.1 77 6).toInt := congrArg Int32.toInt c_87
            refine C_156 hX (dp1 hd (by decide)) hG83 (by omega)  (fun M94 hG90 F89 p_91 p_92 p_93 => ?_)
            have F95 := FR.c F84 F89 tg_308
            have b_96 := g_b hG90 (a := 77) (i := 7) (lo := 0) (hi := 500) rfl rfl
            have c_97 : M94.2.1 77 6 = (M.2.1 77 6) := (F_n F89 (show ¬ (77 = 77 ∧ 7 ≤ 6 ∧ 6 ≤ 10) by decide) c_87)
            have t_98 : (M94.2.1 77 6).toInt = (M.2.1 77 6).toInt := congrArg Int32.toInt c_97
            have b_99 := g_b hG90 (a := 77) (i := 8) (lo := 0) (hi := 5) rfl rfl
            refine to_c (pc := 133) rw_226_133 (x := (1 : Int32)) rfl rfl (s_r1 (pc := 134) rw_226_134 (A := 1) rfl (by decide) ?_)
            have c_100 : M94.2.1 77 59 = (M58.2.1 77 59) := (F_n F89 (show ¬ (77 = 77 ∧ 7 ≤ 59 ∧ 59 ≤ 10) by decide) (W_n W81 (by decide) (W_n W74 (by decide) rfl)))
            have t_101 : (M94.2.1 77 59).toInt = (M58.2.1 77 59).toInt := congrArg Int32.toInt c_100
            have c_102 : M94.2.1 77 65 = v72 := (F_n F89 (show ¬ (77 = 77 ∧ 7 ≤ 65 ∧ 65 ≤ 10) by decide) (W_n W81 (by decide) (W_e W74)))
            have t_103 : (M94.2.1 77 65).toInt = v72.toInt := congrArg Int32.toInt c_102
            have c_104 : M94.2.1 77 66 = (M58.2.1 77 66) := (F_n F89 (show ¬ (77 = 77 ∧ 7 ≤ 66 ∧ 66 ≤ 10) by decide) (W_n W81 (by decide) (W_n W74 (by decide) rfl)))
            have t_105 : (M94.2.1 77 66).toInt = (M58.2.1 77 66).toInt := congrArg Int32.toInt c_104
            have c_106 : M94.2.1 77 67 = v79 := (F_n F89 (show ¬ (77 = 77 ∧ 7 ≤ 67 ∧ 67 ≤ 10) by decide) (W_e W81))
            have t_107 : (M94.2.1 77 67).toInt = v79.toInt := congrArg Int32.toInt c_106
            have c_108 : M94.2.1 77 68 = (M.2.1 77 68) := (F_n F89 (show ¬ (77 = 77 ∧ 7 ≤ 68 ∧ 68 ≤ 10) by decide) (W_n W81 (by decide) (W_n W74 (by decide) c_66)))
            have t_109 : (M94.2.1 77 68).toInt = (M.2.1 77 68).toInt := congrArg Int32.toInt c_108
            have c_110 : M94.2.1 77 69 = (M.2.1 77 69) := (F_n F89 (show ¬ (77 = 77 ∧ 7 ≤ 69 ∧ 69 ≤ 10) by decide) (W_n W81 (by decide) (W_n W74 (by decide) c_68)))
            have t_111 : (M94.2.1 77 69).toInt = (M.2.1 77 69).toInt := congrArg Int32.toInt c_110
            have s_113 := Wx_f (M := M58) (M1 := M94) (((M58.2.1 77 65).toInt).toNat - 1) (fun i z => (F_n F89 (show ¬ (115 = 77 ∧ 7 ≤ i ∧ i ≤ 10) by omega) (W_n W81 (by omega) (W_n W74 (by omega) rfl))))
            have j_112 : QK M94 := QK_i (by unfold QK_c; rw [show ((M94.2.1 77 65).toInt).toNat = ((M58.2.1 77 65).toInt).toNat - 1 by omega]; refine ⟨by omega, by omega, by omega, by omega⟩) (fun i z => by rw [(F_n F89 (show ¬ (115 = 77 ∧ 7 ≤ i ∧ i ≤ 10) by omega) (W_n W81 (by omega) (W_n W74 (by omega) rfl)))]; exact p_55.2.1 i (by omega)) (by rw [(F_n F89 (show ¬ (77 = 77 ∧ 7 ≤ 59 ∧ 59 ≤ 10) by decide) (W_n W81 (by omega) (W_n W74 (by omega) rfl)))]; exact KN_f (fun a i z => (F_n F89 (show ¬ (a = 77 ∧ 7 ≤ i ∧ i ≤ 10) by omega) (W_n W81 (by /-r77,67-/ omega) (W_n W74 (by /-r77,65-/ omega) rfl)))) p_55.2.2)
            exact h (1 : Int32) M94 hG90 F95 (by decide) (by decide) (by omega) (by omega) (by omega) (by omega) (fun _ => j_112)
          · refine to_an (pc := 98) rw_226_98 rfl (to_c (pc := 99) rw_226_99 (x := (1 : Int32)) rfl rfl (s_v (pc := 100) rw_226_100 (dp0 hd (by decide)) (ls0 := [.ref 77, .int (1 : Int32)]) rfl (Nat.le_of_ble_eq_true rfl) (Nat.le_of_ble_eq_true rfl) rfl (to_rc rfl rfl rfl (g_o hG rfl)) rfl (to_an (pc := 0) rw_152_0 rfl (to_in (pc := 1) rw_152_1 rfl (s_pI (pc := 2) rw_152_2 hG rfl (fun M115 W114 => ?_))))))
            have hG116 := g_wf hG W114 rfl rfl (by decide)
            have F117 := FR.w F0 W114 (show 77 = 77 ∧ (4 = 4 ∨ 4 = 5 ∨ 7 ≤ 4 ∧ 4 ≤ 10) ∨ 77 = 77 ∧ (4 = 59 ∨ 65 ≤ 4 ∧ 4 ≤ 69) ∨ 112 ≤ 77 ∧ 77 ≤ 114 ∧ 40 ≤ 4 ∨ 77 = 115 ∨ 77 = 116 by decide)
            refine to_an (pc := 5) rw_152_5 rfl (to_an (pc := 6) rw_152_6 rfl ?_)
            have c_118 : M115.2.1 77 10 = (M.2.1 77 10) := (W_n W114 (by decide) rfl)
            have b_119 := g_b hG (a := 77) (i := 10) (lo := 0) (hi := 500) rfl rfl
            refine tt_gI (pc := 7) rw_152_7 (g_o hG116 rfl) (v := (M.2.1 77 10)) c_118 (s_pI (pc := 10) rw_152_10 hG116 rfl (fun M121 W120 => ?_))
            have hG122 := g_wf hG116 W120 rfl rfl (by decide)
            have F123 := FR.w F117 W120 (show 77 = 77 ∧ (5 = 4 ∨ 5 = 5 ∨ 7 ≤ 5 ∧ 5 ≤ 10) ∨ 77 = 77 ∧ (5 = 59 ∨ 65 ≤ 5 ∧ 5 ≤ 69) ∨ 112 ≤ 77 ∧ 77 ≤ 114 ∧ 40 ≤ 5 ∨ 77 = 115 ∨ 77 = 116 by decide)
            refine to_c (pc := 13) rw_152_13 (x := (0 : Int32)) rfl rfl (s_r1 (pc := 14) rw_152_14 (A := 0) rfl (by decide) (s_r1 (pc := 103) rw_226_103 (A := 0) rfl (by decide) ?_))
            have k_124 : (0 : Int32).toInt = 0 := rfl
            have c_125 : M121.2.1 77 7 = (M.2.1 77 7) := (W_n W120 (by decide) (W_n W114 (by decide) rfl))
            have t_126 : (M121.2.1 77 7).toInt = (M.2.1 77 7).toInt := congrArg Int32.toInt c_125
            have c_127 : M121.2.1 77 6 = (M.2.1 77 6) := (W_n W120 (by decide) (W_n W114 (by decide) rfl))
            have t_128 : (M121.2.1 77 6).toInt = (M.2.1 77 6).toInt := congrArg Int32.toInt c_127
            have c_129 : M121.2.1 77 8 = (M.2.1 77 8) := (W_n W120 (by decide) (W_n W114 (by decide) rfl))
            have t_130 : (M121.2.1 77 8).toInt = (M.2.1 77 8).toInt := congrArg Int32.toInt c_129
            exact h (0 : Int32) M121 hG122 F123 (by decide) (by decide) (by omega) (by omega) (by omega) (by omega) (fun z => absurd z (by omega))
    · refine to_an (pc := 8) rw_158_8 rfl (tt_gI (pc := 9) rw_158_9 (g_o hG rfl) (v := (M.2.1 77 9)) rfl (to_in (pc := 12) rw_158_12 rfl (b_cne (pc := 13) rw_158_13 (A := (M.2.1 77 9).toInt) (B := 13) rfl rfl (fun h131 => ?_) (fun h131 => ?_))))
      · refine to_c (pc := 20) rw_158_20 (x := (0 : Int32)) rfl rfl (s_r1 (pc := 21) rw_158_21 (A := 0) rfl (by decide) (b_ieq_t (pc := 15) rw_226_15 (A := 0) rfl (by decide) (to_an (pc := 82) rw_226_82 rfl (to_c (pc := 83) rw_226_83 (x := (41 : Int32)) rfl rfl (s_v (pc := 85) rw_226_85 (dp0 hd (by decide)) (ls0 := [.ref 77, .int (41 : Int32)]) rfl (Nat.le_of_ble_eq_true rfl) (Nat.le_of_ble_eq_true rfl) rfl (to_rc rfl rfl rfl (g_o hG rfl)) rfl (to_an (pc := 0) rw_159_0 rfl (tt_gI (pc := 1) rw_159_1 (g_o hG rfl) (v := (M.2.1 77 8)) rfl (to_c (pc := 4) rw_159_4 (x := (4 : Int32)) rfl rfl (b_cne_t (pc := 5) rw_159_5 (A := (M.2.1 77 8).toInt) (B := 4) rfl rfl (by omega) (to_c (pc := 20) rw_159_20 (x := (0 : Int32)) rfl rfl (s_r1 (pc := 21) rw_159_21 (A := 0) rfl (by decide) ?_)))))))))))
        refine b_ieq_t (pc := 88) rw_226_88 (A := 0) rfl (by decide) (to_an (pc := 98) rw_226_98 rfl (to_c (pc := 99) rw_226_99 (x := (1 : Int32)) rfl rfl (s_v (pc := 100) rw_226_100 (dp0 hd (by decide)) (ls0 := [.ref 77, .int (1 : Int32)]) rfl (Nat.le_of_ble_eq_true rfl) (Nat.le_of_ble_eq_true rfl) rfl (to_rc rfl rfl rfl (g_o hG rfl)) rfl (to_an (pc := 0) rw_152_0 rfl (to_in (pc := 1) rw_152_1 rfl (s_pI (pc := 2) rw_152_2 hG rfl (fun M133 W132 => ?_)))))))
        have hG134 := g_wf hG W132 rfl rfl (by decide)
        have F135 := FR.w F0 W132 (show 77 = 77 ∧ (4 = 4 ∨ 4 = 5 ∨ 7 ≤ 4 ∧ 4 ≤ 10) ∨ 77 = 77 ∧ (4 = 59 ∨ 65 ≤ 4 ∧ 4 ≤ 69) ∨ 112 ≤ 77 ∧ 77 ≤ 114 ∧ 40 ≤ 4 ∨ 77 = 115 ∨ 77 = 116 by decide)
        refine to_an (pc := 5) rw_152_5 rfl (to_an (pc := 6) rw_152_6 rfl ?_)
        have c_136 : M133.2.1 77 10 = (M.2.1 77 10) := (W_n W132 (by decide) rfl)
        have b_137 := g_b hG (a := 77) (i := 10) (lo := 0) (hi := 500) rfl rfl
        refine tt_gI (pc := 7) rw_152_7 (g_o hG134 rfl) (v := (M.2.1 77 10)) c_136 (s_pI (pc := 10) rw_152_10 hG134 rfl (fun M139 W138 => ?_))
        have hG140 := g_wf hG134 W138 rfl rfl (by decide)
        have F141 := FR.w F135 W138 (show 77 = 77 ∧ (5 = 4 ∨ 5 = 5 ∨ 7 ≤ 5 ∧ 5 ≤ 10) ∨ 77 = 77 ∧ (5 = 59 ∨ 65 ≤ 5 ∧ 5 ≤ 69) ∨ 112 ≤ 77 ∧ 77 ≤ 114 ∧ 40 ≤ 5 ∨ 77 = 115 ∨ 77 = 116 by decide)
        refine to_c (pc := 13) rw_152_13 (x := (0 : Int32)) rfl rfl (s_r1 (pc := 14) rw_152_14 (A := 0) rfl (by decide) (s_r1 (pc := 103) rw_226_103 (A := 0) rfl (by decide) ?_))
        have k_142 : (0 : Int32).toInt = 0 := rfl
        have c_143 : M139.2.1 77 7 = (M.2.1 77 7) := (W_n W138 (by decide) (W_n W132 (by decide) rfl))
        have t_144 : (M139.2.1 77 7).toInt = (M.2.1 77 7).toInt := congrArg Int32.toInt c_143
        have c_145 : M139.2.1 77 6 = (M.2.1 77 6) := (W_n W138 (by decide) (W_n W132 (by decide) rfl))
        have t_146 : (M139.2.1 77 6).toInt = (M.2.1 77 6).toInt := congrArg Int32.toInt c_145
        have c_147 : M139.2.1 77 8 = (M.2.1 77 8) := (W_n W138 (by decide) (W_n W132 (by decide) rfl))
        have t_148 : (M139.2.1 77 8).toInt = (M.2.1 77 8).toInt := congrArg Int32.toInt c_147
        exact h (0 : Int32) M139 hG140 F141 (by decide) (by decide) (by omega) (by omega) (by omega) (by omega) (fun z => absurd z (by omega))
      · refine to_c (pc := 16) rw_158_16 (x := (1 : Int32)) rfl rfl (to_go (pc := 17) rw_158_17 (s_r1 (pc := 21) rw_158_21 (A := 1) rfl (by decide) (b_ieq_f (pc := 15) rw_226_15 (A := 1) rfl (by decide) (to_an (pc := 18) rw_226_18 rfl (tt_gI (pc := 19) rw_226_19 (g_o hG rfl) (v := (M.2.1 77 9)) rfl (to_c (pc := 22) rw_226_22 (x := (12 : Int32)) rfl rfl (b_cne_t (pc := 24) rw_226_24 (A := (M.2.1 77 9).toInt) (B := 12) rfl rfl (by omega) (to_c (pc := 31) rw_226_31 (x := (4 : Int32)) rfl rfl (to_isn (pc := 32) rw_226_32 (ls2 := [.ref 77, .int (4 : Int32)]) rfl rfl (to_an (pc := 33) rw_226_33 rfl (s_v (pc := 34) rw_226_34 (dp0 hd (by decide)) (ls0 := [.ref 77]) rfl (Nat.le_of_ble_eq_true rfl) (Nat.le_of_ble_eq_true rfl) rfl (to_rc rfl rfl rfl (g_o hG rfl)) rfl ?_)))))))))))
        refine to_an (pc := 0) rw_224_0 rfl (tt_gI (pc := 1) rw_224_1 (g_o hG rfl) (v := (M.2.1 77 69)) rfl (to_c (pc := 4) rw_224_4 (x := (40 : Int32)) rfl rfl (b_cne (pc := 6) rw_224_6 (A := (M.2.1 77 69).toInt) (B := 40) rfl rfl (fun h149 => ?_) (fun h149 => ?_))))
        · refine to_an (pc := 15) rw_224_15 rfl (to_dupr (pc := 16) rw_224_16 (tt_gI (pc := 17) rw_224_17 (g_o hG rfl) (v := (M.2.1 77 69)) rfl (to_c (pc := 20) rw_224_20 (x := (1 : Int32)) rfl rfl (s_add (pc := 21) rw_224_21 (A := (M.2.1 77 69).toInt) (B := 1) rfl rfl (by omega) (fun v150 e151 => s_pI (pc := 22) rw_224_22 hG rfl (fun M153 W152 => ?_))))))
          have hG154 := g_w hG W152 (A := v150.toInt) rfl (lo := 0) (hi := 40) rfl rfl (by omega) (by decide)
          have F155 := FR.w F0 W152 (show 77 = 77 ∧ (69 = 4 ∨ 69 = 5 ∨ 7 ≤ 69 ∧ 69 ≤ 10) ∨ 77 = 77 ∧ (69 = 59 ∨ 65 ≤ 69 ∧ 69 ≤ 69) ∨ 112 ≤ 77 ∧ 77 ≤ 114 ∧ 40 ≤ 69 ∨ 77 = 115 ∨ 77 = 116 by decide)
          refine to_c (pc := 25) rw_224_25 (x := (1 : Int32)) rfl rfl (s_r1 (pc := 26) rw_224_26 (A := 1) rfl (by decide) (b_ine_t (pc := 37) rw_226_37 (A := 1) rfl (by decide) (to_an (pc := 42) rw_226_42 rfl (to_an (pc := 43) rw_226_43 rfl (to_in (pc := 44) rw_226_44 rfl (s_v (pc := 45) rw_226_45 (dp0 hd (by decide)) (ls0 := [.ref 77, .int (4 : Int32)]) rfl (Nat.le_of_ble_eq_true rfl) (Nat.le_of_ble_eq_true rfl) rfl (to_rc rfl rfl rfl (g_o hG154 rfl)) rfl (to_in (pc := 0) rw_220_0 rfl (to_c (pc := 1) rw_220_1 (x := (2 : Int32)) rfl rfl (b_cne_t (pc := 2) rw_220_2 (A := 4) (B := 2) rfl rfl (by decide) (to_in (pc := 9) rw_220_9 rfl (to_c (pc := 10) rw_220_10 (x := (3 : Int32)) rfl rfl ?_)))))))))))
          refine b_cne_t (pc := 11) rw_220_11 (A := 4) (B := 3) rfl rfl (by decide) (to_in (pc := 18) rw_220_18 rfl (to_c (pc := 19) rw_220_19 (x := (4 : Int32)) rfl rfl (b_cne_f (pc := 20) rw_220_20 (A := 4) (B := 4) rfl rfl (by decide) (to_c (pc := 23) rw_220_23 (x := (1 : Int32)) rfl rfl (to_go (pc := 24) rw_220_24 (to_r0 (pc := 28) rw_220_28 (s_v (pc := 48) rw_226_48 (dp0 hd (by decide)) (ls0 := [.ref 77, .int (1 : Int32), .null, .null, .null]) rfl (Nat.le_of_ble_eq_true rfl) (Nat.le_of_ble_eq_true rfl) rfl (to_rc rfl rfl rfl (g_o hG154 rfl)) rfl ?_)))))))
          have k_156 : (1 : Int32).toInt = 1 := rfl
          have c_157 : M153.2.1 77 59 = (M.2.1 77 59) := (W_n W152 (by decide) rfl)
          have t_158 : (M153.2.1 77 59).toInt = (M.2.1 77 59).toInt := congrArg Int32.toInt c_157
          have c_159 : M153.2.1 77 65 = (M.2.1 77 65) := (W_n W152 (by decide) rfl)
          have t_160 : (M153.2.1 77 65).toInt = (M.2.1 77 65).toInt := congrArg Int32.toInt c_159
          have c_161 : M153.2.1 77 66 = (M.2.1 77 66) := (W_n W152 (by decide) rfl)
          have t_162 : (M153.2.1 77 66).toInt = (M.2.1 77 66).toInt := congrArg Int32.toInt c_161
          have c_163 : M153.2.1 77 67 = (M.2.1 77 67) := (W_n W152 (by decide) rfl)
          have t_164 : (M153.2.1 77 67).toInt = (M.2.1 77 67).toInt := congrArg Int32.toInt c_163
          have c_165 : M153.2.1 77 68 = (M.2.1 77 68) := (W_n W152 (by decide) rfl)
          have t_166 : (M153.2.1 77 68).toInt = (M.2.1 77 68).toInt := congrArg Int32.toInt c_165
          have c_167 : M153.2.1 77 69 = v150 := (W_e W152)
          have t_168 : (M153.2.1 77 69).toInt = v150.toInt := congrArg Int32.toInt c_167
          have s_170 := Wx_f (M := M) (M1 := M153) ((M.2.1 77 65).toInt).toNat (fun i z => (W_n W152 (by omega) rfl))
          have j_169 : QK M153 := QK_i (by unfold QK_c; rw [show ((M153.2.1 77 65).toInt).toNat = ((M.2.1 77 65).toInt).toNat by omega]; refine ⟨by omega, by omega, by omega, by omega⟩) (fun i z => by rw [(W_n W152 (by omega) rfl)]; exact q2.2.1 i (by omega)) (by rw [(W_n W152 (by omega) rfl)]; exact KN_f (fun a i z => (W_n W152 (by /-r77,69-/ omega) rfl)) q2.2.2)
          refine C_223 hX (dp1 hd (by decide)) hG154 (by omega) (by omega) (by omega) j_169 (l := (1 : Int32)) (fun M176 hG172 F171 p_173 p_174 p_175 => ?_)
          have F177 := FR.c F155 F171 tg_307
          have s_178 := p_174
          have s_179 : Wo M153 ((M153.2.1 77 65).toInt).toNat = Wo M ((M.2.1 77 65).toInt).toNat := by rw [show (M153.2.1 77 65) = (M.2.1 77 65) from (W_n W152 (by omega) rfl)]; exact (Wx_f (M := M) (M1 := M153) _ (fun i z => (W_n W152 (by omega) rfl))).1
          have b_180 := g_b hG172 (a := 77) (i := 59) (lo := 0) (hi := 40) rfl rfl
          have b_181 := g_b hG172 (a := 77) (i := 65) (lo := 0) (hi := 48) rfl rfl
          have b_182 := g_b hG172 (a := 77) (i := 66) (lo := 0) (hi := 40) rfl rfl
          have c_183 : M176.2.1 77 67 = (M.2.1 77 67) := (F_n F171 (show ¬ (77 = 77 ∧ (67 = 59 ∨ 67 = 65 ∨ 67 = 66) ∨ 112 ≤ 77 ∧ 77 ≤ 114 ∧ 40 ≤ 67 ∨ 77 = 116) by decide) c_163)
          have t_184 : (M176.2.1 77 67).toInt = (M.2.1 77 67).toInt := congrArg Int32.toInt c_183
          have c_185 : M176.2.1 77 68 = (M.2.1 77 68) := (F_n F171 (show ¬ (77 = 77 ∧ (68 = 59 ∨ 68 = 65 ∨ 68 = 66) ∨ 112 ≤ 77 ∧ 77 ≤ 114 ∧ 40 ≤ 68 ∨ 77 = 116) by decide) c_165)
          have t_186 : (M176.2.1 77 68).toInt = (M.2.1 77 68).toInt := congrArg Int32.toInt c_185
          have c_187 : M176.2.1 77 69 = v150 := (F_n F171 (show ¬ (77 = 77 ∧ (69 = 59 ∨ 69 = 65 ∨ 69 = 66) ∨ 112 ≤ 77 ∧ 77 ≤ 114 ∧ 40 ≤ 69 ∨ 77 = 116) by decide) c_167)
          have t_188 : (M176.2.1 77 69).toInt = v150.toInt := congrArg Int32.toInt c_187
          have s_189 := QK_e p_173
          have s_190 := Wx_b M176 ((M176.2.1 77 65).toInt).toNat
          refine to_an (pc := 51) rw_226_51 rfl (s_gR (pc := 52) rw_226_52 hG172 rfl (v := 115) rfl (to_an (pc := 55) rw_226_55 rfl (tt_gI (pc := 56) rw_226_56 (g_o hG172 rfl) (v := (M176.2.1 77 65)) rfl (to_in (pc := 59) rw_226_59 rfl (s_ias (pc := 60) rw_226_60 hG172 rfl (n := 64) rfl (A := (M176.2.1 77 65).toInt) rfl (by omega) (by omega) (fun M192 W191 => ?_))))))
          have hG193 := g_w hG172 W191 (A := 4) rfl (lo := 0) (hi := 4) rfl rfl (by omega) (by decide)
          have F194 := FR.w F177 W191 (show 115 = 77 ∧ (((M176.2.1 77 65).toInt).toNat = 4 ∨ ((M176.2.1 77 65).toInt).toNat = 5 ∨ 7 ≤ ((M176.2.1 77 65).toInt).toNat ∧ ((M176.2.1 77 65).toInt).toNat ≤ 10) ∨ 115 = 77 ∧ (((M176.2.1 77 65).toInt).toNat = 59 ∨ 65 ≤ ((M176.2.1 77 65).toInt).toNat ∧ ((M176.2.1 77 65).toInt).toNat ≤ 69) ∨ 112 ≤ 115 ∧ 115 ≤ 114 ∧ 40 ≤ ((M176.2.1 77 65).toInt).toNat ∨ 115 = 115 ∨ 115 = 116 by omega)
          refine to_an (pc := 61) rw_226_61 rfl (to_dupr (pc := 62) rw_226_62 ?_)
          have c_195 : M192.2.1 77 65 = (M176.2.1 77 65) := (W_n W191 (fun z => absurd z.1 (by decide)) rfl)
          refine tt_gI (pc := 63) rw_226_63 (g_o hG193 rfl) (v := (M176.2.1 77 65)) c_195 (to_c (pc := 66) rw_226_66 (x := (1 : Int32)) rfl rfl (s_add (pc := 67) rw_226_67 (A := (M176.2.1 77 65).toInt) (B := 1) rfl rfl (by omega) (fun v196 e197 => s_pI (pc := 68) rw_226_68 hG193 rfl (fun M199 W198 => ?_))))
          have hG200 := g_w hG193 W198 (A := v196.toInt) rfl (lo := 0) (hi := 48) rfl rfl (by omega) (by decide)
          have F201 := FR.w F194 W198 (show 77 = 77 ∧ (65 = 4 ∨ 65 = 5 ∨ 7 ≤ 65 ∧ 65 ≤ 10) ∨ 77 = 77 ∧ (65 = 59 ∨ 65 ≤ 65 ∧ 65 ≤ 69) ∨ 112 ≤ 77 ∧ 77 ≤ 114 ∧ 40 ≤ 65 ∨ 77 = 115 ∨ 77 = 116 by decide)
          refine to_an (pc := 71) rw_226_71 rfl (to_c (pc := 72) rw_226_72 (x := (0 : Int32)) rfl rfl (s_pI (pc := 73) rw_226_73 hG200 rfl (fun M203 W202 => ?_)))
          have hG204 := g_w hG200 W202 (A := 0) rfl (lo := 0) (hi := 1) rfl rfl (by omega) (by decide)
          have F205 := FR.w F201 W202 (show 77 = 77 ∧ (68 = 4 ∨ 68 = 5 ∨ 7 ≤ 68 ∧ 68 ≤ 10) ∨ 77 = 77 ∧ (68 = 59 ∨ 65 ≤ 68 ∧ 68 ≤ 69) ∨ 112 ≤ 77 ∧ 77 ≤ 114 ∧ 40 ≤ 68 ∨ 77 = 115 ∨ 77 = 116 by decide)
          refine to_an (pc := 76) rw_226_76 rfl (s_v (pc := 77) rw_226_77 (dp0 hd (by decide)) (ls0 := [.ref 77]) rfl (Nat.le_of_ble_eq_true rfl) (Nat.le_of_ble_eq_true rfl) rfl (to_rc rfl rfl rfl (g_o hG204 rfl)) rfl ?_)
          have c_206 : M203.2.1 77 7 = (M.2.1 77 7) := (W_n W202 (by decide) (W_n W198 (by decide) (W_n W191 (fun z => absurd z.1 (by decide)) (F_n F171 (show ¬ (77 = 77 ∧ (7 = 59 ∨ 7 = 65 ∨ 7 = 66) ∨ 112 ≤ 77 ∧ 77 ≤ 114 ∧ 40 ≤ 7 ∨ 77 = 116) by decide) (W_n W152 (by decide) rfl)))))
          have t_207 : (M203.2.1 77 7).toInt = (M.2.1 77 7).toInt := congrArg Int32.toInt c_206
          have c_208 : M203.2.1 77 6 = (M.2.1 77 6) := (W_n W202 (by decide) (W_n W198 (by decide) (W_n W191 (fun z => absurd z.1 (by decide)) (F_n F171 (show ¬ (77 = 77 ∧ (6 = 59 ∨ 6 = 65 ∨ 6 = 66) ∨ 112 ≤ 77 ∧ 77 ≤ 114 ∧ 40 ≤ 6 ∨ 77 = 116) by decide) (W_n W152 (by decide) rfl)))))
          have t_209 : (M203.2.1 77 6).toInt = (M.2.1 77 6).toInt := congrArg Int32.toInt c_208
          refine C_156 hX (dp1 hd (by decide)) hG204 (by omega)  (fun M215 hG211 F210 p_212 p_213 p_214 => ?_)
          have F216 := FR.c F205 F210 tg_308
          have b_217 := g_b hG211 (a := 77) (i := 7) (lo := 0) (hi := 500) rfl rfl
          have c_218 : M215.2.1 77 6 = (M.2.1 77 6) := (F_n F210 (show ¬ (77 = 77 ∧ 7 ≤ 6 ∧ 6 ≤ 10) by decide) c_208)
          have t_219 : (M215.2.1 77 6).toInt = (M.2.1 77 6).toInt := congrArg Int32.toInt c_218
          have b_220 := g_b hG211 (a := 77) (i := 8) (lo := 0) (hi := 5) rfl rfl
          refine to_c (pc := 80) rw_226_80 (x := (1 : Int32)) rfl rfl (s_r1 (pc := 81) rw_226_81 (A := 1) rfl (by decide) ?_)
          have c_221 : M215.2.1 77 59 = (M176.2.1 77 59) := (F_n F210 (show ¬ (77 = 77 ∧ 7 ≤ 59 ∧ 59 ≤ 10) by decide) (W_n W202 (by decide) (W_n W198 (by decide) (W_n W191 (fun z => absurd z.1 (by decide)) rfl))))
          have t_222 : (M215.2.1 77 59).toInt = (M176.2.1 77 59).toInt := congrArg Int32.toInt c_221
          have c_223 : M215.2.1 77 65 = v196 := (F_n F210 (show ¬ (77 = 77 ∧ 7 ≤ 65 ∧ 65 ≤ 10) by decide) (W_n W202 (by decide) (W_e W198)))
          have t_224 : (M215.2.1 77 65).toInt = v196.toInt := congrArg Int32.toInt c_223
          have c_225 : M215.2.1 77 66 = (M176.2.1 77 66) := (F_n F210 (show ¬ (77 = 77 ∧ 7 ≤ 66 ∧ 66 ≤ 10) by decide) (W_n W202 (by decide) (W_n W198 (by decide) (W_n W191 (fun z => absurd z.1 (by decide)) rfl))))
          have t_226 : (M215.2.1 77 66).toInt = (M176.2.1 77 66).toInt := congrArg Int32.toInt c_225
          have c_227 : M215.2.1 77 67 = (M.2.1 77 67) := (F_n F210 (show ¬ (77 = 77 ∧ 7 ≤ 67 ∧ 67 ≤ 10) by decide) (W_n W202 (by decide) (W_n W198 (by decide) (W_n W191 (fun z => absurd z.1 (by decide)) c_183))))
          have t_228 : (M215.2.1 77 67).toInt = (M.2.1 77 67).toInt := congrArg Int32.toInt c_227
          have c_229 : M215.2.1 77 68 = (0 : Int32) := (F_n F210 (show ¬ (77 = 77 ∧ 7 ≤ 68 ∧ 68 ≤ 10) by decide) (W_e W202))
          have k_230 : (0 : Int32).toInt = 0 := rfl
          have t_231 : (M215.2.1 77 68).toInt = (0 : Int32).toInt := congrArg Int32.toInt c_229
          have c_232 : M215.2.1 77 69 = v150 := (F_n F210 (show ¬ (77 = 77 ∧ 7 ≤ 69 ∧ 69 ≤ 10) by decide) (W_n W202 (by decide) (W_n W198 (by decide) (W_n W191 (fun z => absurd z.1 (by decide)) c_187))))
          have t_233 : (M215.2.1 77 69).toInt = v150.toInt := congrArg Int32.toInt c_232
          have k_235 : (4 : Int32).toInt = 4 := rfl
          have s_236 := Wx_f (M := M176) (M1 := M215) ((M176.2.1 77 65).toInt).toNat (fun i z => (F_n F210 (show ¬ (115 = 77 ∧ 7 ≤ i ∧ i ≤ 10) by omega) (W_n W202 (by omega) (W_n W198 (by omega) (W_n W191 (by omega) rfl)))))
          have s_237 : (M215.2.1 115 ((M176.2.1 77 65).toInt).toNat).toInt = (4 : Int32).toInt := by rw [show ((M176.2.1 77 65).toInt).toNat = ((M176.2.1 77 65).toInt).toNat by omega]; exact congrArg Int32.toInt (F_n F210 (show ¬ (115 = 77 ∧ 7 ≤ (((M176.2.1 77 65).toInt).toNat) ∧ (((M176.2.1 77 65).toInt).toNat) ≤ 10) by omega) (W_n W202 (by omega) (W_n W198 (by omega) (W_e W191))))
          have s_238 := Wx_s M215 ((M176.2.1 77 65).toInt).toNat
          have j_234 : QK M215 := QK_i (by unfold QK_c; rw [show ((M215.2.1 77 65).toInt).toNat = ((M176.2.1 77 65).toInt).toNat + 1 by omega]; refine ⟨by omega, by omega, by omega, by omega⟩) (fun i z => by
              by_cases ei : i = ((M176.2.1 77 65).toInt).toNat
              · rw [ei]; omega
              · rw [(F_n F210 (show ¬ (115 = 77 ∧ 7 ≤ i ∧ i ≤ 10) by omega) (W_n W202 (by omega) (W_n W198 (by omega) (W_n W191 (by omega) rfl))))]; exact p_173.2.1 i (by omega)) (by rw [(F_n F210 (show ¬ (77 = 77 ∧ 7 ≤ 59 ∧ 59 ≤ 10) by decide) (W_n W202 (by omega) (W_n W198 (by omega) (W_n W191 (by omega) rfl))))]; exact KN_f (fun a i z => (F_n F210 (show ¬ (a = 77 ∧ 7 ≤ i ∧ i ≤ 10) by omega) (W_n W202 (by /-r77,68-/ omega) (W_n W198 (by /-r77,65-/ omega) (W_n W191 (by /-r115-/ omega) rfl))))) p_173.2.2)
          exact h (1 : Int32) M215 hG211 F216 (by decide) (by decide) (by omega) (by omega) (by omega) (by omega) (fun _ => j_234)
        · refine to_an (pc := 9) rw_224_9 rfl (to_c (pc := 10) rw_224_10 (x := (2 : Int32)) rfl rfl (s_v (pc := 11) rw_224_11 (dp1 hd (by decide)) (ls0 := [.ref 77, .int (2 : Int32)]) rfl (Nat.le_of_ble_eq_true rfl) (Nat.le_of_ble_eq_true rfl) rfl (to_rc rfl rfl rfl (g_o hG rfl)) rfl (to_an (pc := 0) rw_152_0 rfl (to_in (pc := 1) rw_152_1 rfl (s_pI (pc := 2) rw_152_2 hG rfl (fun M240 W239 => ?_))))))
          have hG241 := g_wf hG W239 rfl rfl (by decide)
          have F242 := FR.w F0 W239 (show 77 = 77 ∧ (4 = 4 ∨ 4 = 5 ∨ 7 ≤ 4 ∧ 4 ≤ 10) ∨ 77 = 77 ∧ (4 = 59 ∨ 65 ≤ 4 ∧ 4 ≤ 69) ∨ 112 ≤ 77 ∧ 77 ≤ 114 ∧ 40 ≤ 4 ∨ 77 = 115 ∨ 77 = 116 by decide)
          refine to_an (pc := 5) rw_152_5 rfl (to_an (pc := 6) rw_152_6 rfl ?_)
          have c_243 : M240.2.1 77 10 = (M.2.1 77 10) := (W_n W239 (by decide) rfl)
          have b_244 := g_b hG (a := 77) (i := 10) (lo := 0) (hi := 500) rfl rfl
          refine tt_gI (pc := 7) rw_152_7 (g_o hG241 rfl) (v := (M.2.1 77 10)) c_243 (s_pI (pc := 10) rw_152_10 hG241 rfl (fun M246 W245 => ?_))
          have hG247 := g_wf hG241 W245 rfl rfl (by decide)
          have F248 := FR.w F242 W245 (show 77 = 77 ∧ (5 = 4 ∨ 5 = 5 ∨ 7 ≤ 5 ∧ 5 ≤ 10) ∨ 77 = 77 ∧ (5 = 59 ∨ 65 ≤ 5 ∧ 5 ≤ 69) ∨ 112 ≤ 77 ∧ 77 ≤ 114 ∧ 40 ≤ 5 ∨ 77 = 115 ∨ 77 = 116 by decide)
          refine to_c (pc := 13) rw_152_13 (x := (0 : Int32)) rfl rfl (s_r1 (pc := 14) rw_152_14 (A := 0) rfl (by decide) (s_r1 (pc := 14) rw_224_14 (A := 0) rfl (by decide) (b_ine_f (pc := 37) rw_226_37 (A := 0) rfl (by decide) (to_c (pc := 40) rw_226_40 (x := (0 : Int32)) rfl rfl (s_r1 (pc := 41) rw_226_41 (A := 0) rfl (by decide) ?_)))))
          have k_249 : (0 : Int32).toInt = 0 := rfl
          have c_250 : M246.2.1 77 7 = (M.2.1 77 7) := (W_n W245 (by decide) (W_n W239 (by decide) rfl))
          have t_251 : (M246.2.1 77 7).toInt = (M.2.1 77 7).toInt := congrArg Int32.toInt c_250
          have c_252 : M246.2.1 77 6 = (M.2.1 77 6) := (W_n W245 (by decide) (W_n W239 (by decide) rfl))
          have t_253 : (M246.2.1 77 6).toInt = (M.2.1 77 6).toInt := congrArg Int32.toInt c_252
          have c_254 : M246.2.1 77 8 = (M.2.1 77 8) := (W_n W245 (by decide) (W_n W239 (by decide) rfl))
          have t_255 : (M246.2.1 77 8).toInt = (M.2.1 77 8).toInt := congrArg Int32.toInt c_254
          exact h (0 : Int32) M246 hG247 F248 (by decide) (by decide) (by omega) (by omega) (by omega) (by omega) (fun z => absurd z (by omega))
  · refine to_an (pc := 8) rw_158_8 rfl (tt_gI (pc := 9) rw_158_9 (g_o hG rfl) (v := (M.2.1 77 9)) rfl (to_in (pc := 12) rw_158_12 rfl (b_cne (pc := 13) rw_158_13 (A := (M.2.1 77 9).toInt) (B := 12) rfl rfl (fun h256 => ?_) (fun h256 => ?_))))
    · refine to_c (pc := 20) rw_158_20 (x := (0 : Int32)) rfl rfl (s_r1 (pc := 21) rw_158_21 (A := 0) rfl (by decide) (b_ine_f (pc := 6) rw_226_6 (A := 0) rfl (by decide) (to_an (pc := 9) rw_226_9 rfl (to_c (pc := 10) rw_226_10 (x := (13 : Int32)) rfl rfl (s_v (pc := 12) rw_226_12 (dp0 hd (by decide)) (ls0 := [.ref 77, .int (13 : Int32)]) rfl (Nat.le_of_ble_eq_true rfl) (Nat.le_of_ble_eq_true rfl) rfl (to_rc rfl rfl rfl (g_o hG rfl)) rfl (to_an (pc := 0) rw_158_0 rfl (tt_gI (pc := 1) rw_158_1 (g_o hG rfl) (v := (M.2.1 77 8)) rfl (to_c (pc := 4) rw_158_4 (x := (1 : Int32)) rfl rfl (b_cne_f (pc := 5) rw_158_5 (A := (M.2.1 77 8).toInt) (B := 1) rfl rfl (by omega) (to_an (pc := 8) rw_158_8 rfl (tt_gI (pc := 9) rw_158_9 (g_o hG rfl) (v := (M.2.1 77 9)) rfl ?_)))))))))))
      refine to_in (pc := 12) rw_158_12 rfl (b_cne (pc := 13) rw_158_13 (A := (M.2.1 77 9).toInt) (B := 13) rfl rfl (fun h257 => ?_) (fun h257 => ?_))
      · refine to_c (pc := 20) rw_158_20 (x := (0 : Int32)) rfl rfl (s_r1 (pc := 21) rw_158_21 (A := 0) rfl (by decide) (b_ieq_t (pc := 15) rw_226_15 (A := 0) rfl (by decide) (to_an (pc := 82) rw_226_82 rfl (to_c (pc := 83) rw_226_83 (x := (41 : Int32)) rfl rfl (s_v (pc := 85) rw_226_85 (dp0 hd (by decide)) (ls0 := [.ref 77, .int (41 : Int32)]) rfl (Nat.le_of_ble_eq_true rfl) (Nat.le_of_ble_eq_true rfl) rfl (to_rc rfl rfl rfl (g_o hG rfl)) rfl (to_an (pc := 0) rw_159_0 rfl (tt_gI (pc := 1) rw_159_1 (g_o hG rfl) (v := (M.2.1 77 8)) rfl (to_c (pc := 4) rw_159_4 (x := (4 : Int32)) rfl rfl (b_cne_t (pc := 5) rw_159_5 (A := (M.2.1 77 8).toInt) (B := 4) rfl rfl (by omega) (to_c (pc := 20) rw_159_20 (x := (0 : Int32)) rfl rfl (s_r1 (pc := 21) rw_159_21 (A := 0) rfl (by decide) ?_)))))))))))
        refine b_ieq_t (pc := 88) rw_226_88 (A := 0) rfl (by decide) (to_an (pc := 98) rw_226_98 rfl (to_c (pc := 99) rw_226_99 (x := (1 : Int32)) rfl rfl (s_v (pc := 100) rw_226_100 (dp0 hd (by decide)) (ls0 := [.ref 77, .int (1 : Int32)]) rfl (Nat.le_of_ble_eq_true rfl) (Nat.le_of_ble_eq_true rfl) rfl (to_rc rfl rfl rfl (g_o hG rfl)) rfl (to_an (pc := 0) rw_152_0 rfl (to_in (pc := 1) rw_152_1 rfl (s_pI (pc := 2) rw_152_2 hG rfl (fun M259 W258 => ?_)))))))
        have hG260 := g_wf hG W258 rfl rfl (by decide)
        have F261 := FR.w F0 W258 (show 77 = 77 ∧ (4 = 4 ∨ 4 = 5 ∨ 7 ≤ 4 ∧ 4 ≤ 10) ∨ 77 = 77 ∧ (4 = 59 ∨ 65 ≤ 4 ∧ 4 ≤ 69) ∨ 112 ≤ 77 ∧ 77 ≤ 114 ∧ 40 ≤ 4 ∨ 77 = 115 ∨ 77 = 116 by decide)
        refine to_an (pc := 5) rw_152_5 rfl (to_an (pc := 6) rw_152_6 rfl ?_)
        have c_262 : M259.2.1 77 10 = (M.2.1 77 10) := (W_n W258 (by decide) rfl)
        have b_263 := g_b hG (a := 77) (i := 10) (lo := 0) (hi := 500) rfl rfl
        refine tt_gI (pc := 7) rw_152_7 (g_o hG260 rfl) (v := (M.2.1 77 10)) c_262 (s_pI (pc := 10) rw_152_10 hG260 rfl (fun M265 W264 => ?_))
        have hG266 := g_wf hG260 W264 rfl rfl (by decide)
        have F267 := FR.w F261 W264 (show 77 = 77 ∧ (5 = 4 ∨ 5 = 5 ∨ 7 ≤ 5 ∧ 5 ≤ 10) ∨ 77 = 77 ∧ (5 = 59 ∨ 65 ≤ 5 ∧ 5 ≤ 69) ∨ 112 ≤ 77 ∧ 77 ≤ 114 ∧ 40 ≤ 5 ∨ 77 = 115 ∨ 77 = 116 by decide)
        refine to_c (pc := 13) rw_152_13 (x := (0 : Int32)) rfl rfl (s_r1 (pc := 14) rw_152_14 (A := 0) rfl (by decide) (s_r1 (pc := 103) rw_226_103 (A := 0) rfl (by decide) ?_))
        have k_268 : (0 : Int32).toInt = 0 := rfl
        have c_269 : M265.2.1 77 7 = (M.2.1 77 7) := (W_n W264 (by decide) (W_n W258 (by decide) rfl))
        have t_270 : (M265.2.1 77 7).toInt = (M.2.1 77 7).toInt := congrArg Int32.toInt c_269
        have c_271 : M265.2.1 77 6 = (M.2.1 77 6) := (W_n W264 (by decide) (W_n W258 (by decide) rfl))
        have t_272 : (M265.2.1 77 6).toInt = (M.2.1 77 6).toInt := congrArg Int32.toInt c_271
        have c_273 : M265.2.1 77 8 = (M.2.1 77 8) := (W_n W264 (by decide) (W_n W258 (by decide) rfl))
        have t_274 : (M265.2.1 77 8).toInt = (M.2.1 77 8).toInt := congrArg Int32.toInt c_273
        exact h (0 : Int32) M265 hG266 F267 (by decide) (by decide) (by omega) (by omega) (by omega) (by omega) (fun z => absurd z (by omega))
      · refine to_c (pc := 16) rw_158_16 (x := (1 : Int32)) rfl rfl (to_go (pc := 17) rw_158_17 (s_r1 (pc := 21) rw_158_21 (A := 1) rfl (by decide) (b_ieq_f (pc := 15) rw_226_15 (A := 1) rfl (by decide) (to_an (pc := 18) rw_226_18 rfl (tt_gI (pc := 19) rw_226_19 (g_o hG rfl) (v := (M.2.1 77 9)) rfl (to_c (pc := 22) rw_226_22 (x := (12 : Int32)) rfl rfl (b_cne_t (pc := 24) rw_226_24 (A := (M.2.1 77 9).toInt) (B := 12) rfl rfl (by omega) (to_c (pc := 31) rw_226_31 (x := (4 : Int32)) rfl rfl (to_isn (pc := 32) rw_226_32 (ls2 := [.ref 77, .int (4 : Int32)]) rfl rfl (to_an (pc := 33) rw_226_33 rfl (s_v (pc := 34) rw_226_34 (dp0 hd (by decide)) (ls0 := [.ref 77]) rfl (Nat.le_of_ble_eq_true rfl) (Nat.le_of_ble_eq_true rfl) rfl (to_rc rfl rfl rfl (g_o hG rfl)) rfl ?_)))))))))))
        refine to_an (pc := 0) rw_224_0 rfl (tt_gI (pc := 1) rw_224_1 (g_o hG rfl) (v := (M.2.1 77 69)) rfl (to_c (pc := 4) rw_224_4 (x := (40 : Int32)) rfl rfl (b_cne (pc := 6) rw_224_6 (A := (M.2.1 77 69).toInt) (B := 40) rfl rfl (fun h275 => ?_) (fun h275 => ?_))))
        · refine to_an (pc := 15) rw_224_15 rfl (to_dupr (pc := 16) rw_224_16 (tt_gI (pc := 17) rw_224_17 (g_o hG rfl) (v := (M.2.1 77 69)) rfl (to_c (pc := 20) rw_224_20 (x := (1 : Int32)) rfl rfl (s_add (pc := 21) rw_224_21 (A := (M.2.1 77 69).toInt) (B := 1) rfl rfl (by omega) (fun v276 e277 => s_pI (pc := 22) rw_224_22 hG rfl (fun M279 W278 => ?_))))))
          have hG280 := g_w hG W278 (A := v276.toInt) rfl (lo := 0) (hi := 40) rfl rfl (by omega) (by decide)
          have F281 := FR.w F0 W278 (show 77 = 77 ∧ (69 = 4 ∨ 69 = 5 ∨ 7 ≤ 69 ∧ 69 ≤ 10) ∨ 77 = 77 ∧ (69 = 59 ∨ 65 ≤ 69 ∧ 69 ≤ 69) ∨ 112 ≤ 77 ∧ 77 ≤ 114 ∧ 40 ≤ 69 ∨ 77 = 115 ∨ 77 = 116 by decide)
          refine to_c (pc := 25) rw_224_25 (x := (1 : Int32)) rfl rfl (s_r1 (pc := 26) rw_224_26 (A := 1) rfl (by decide) (b_ine_t (pc := 37) rw_226_37 (A := 1) rfl (by decide) (to_an (pc := 42) rw_226_42 rfl (to_an (pc := 43) rw_226_43 rfl (to_in (pc := 44) rw_226_44 rfl (s_v (pc := 45) rw_226_45 (dp0 hd (by decide)) (ls0 := [.ref 77, .int (4 : Int32)]) rfl (Nat.le_of_ble_eq_true rfl) (Nat.le_of_ble_eq_true rfl) rfl (to_rc rfl rfl rfl (g_o hG280 rfl)) rfl (to_in (pc := 0) rw_220_0 rfl (to_c (pc := 1) rw_220_1 (x := (2 : Int32)) rfl rfl (b_cne_t (pc := 2) rw_220_2 (A := 4) (B := 2) rfl rfl (by decide) (to_in (pc := 9) rw_220_9 rfl (to_c (pc := 10) rw_220_10 (x := (3 : Int32)) rfl rfl ?_)))))))))))
          refine b_cne_t (pc := 11) rw_220_11 (A := 4) (B := 3) rfl rfl (by decide) (to_in (pc := 18) rw_220_18 rfl (to_c (pc := 19) rw_220_19 (x := (4 : Int32)) rfl rfl (b_cne_f (pc := 20) rw_220_20 (A := 4) (B := 4) rfl rfl (by decide) (to_c (pc := 23) rw_220_23 (x := (1 : Int32)) rfl rfl (to_go (pc := 24) rw_220_24 (to_r0 (pc := 28) rw_220_28 (s_v (pc := 48) rw_226_48 (dp0 hd (by decide)) (ls0 := [.ref 77, .int (1 : Int32), .null, .null, .null]) rfl (Nat.le_of_ble_eq_true rfl) (Nat.le_of_ble_eq_true rfl) rfl (to_rc rfl rfl rfl (g_o hG280 rfl)) rfl ?_)))))))
          have k_282 : (1 : Int32).toInt = 1 := rfl
          have c_283 : M279.2.1 77 59 = (M.2.1 77 59) := (W_n W278 (by decide) rfl)
          have t_284 : (M279.2.1 77 59).toInt = (M.2.1 77 59).toInt := congrArg Int32.toInt c_283
          have c_285 : M279.2.1 77 65 = (M.2.1 77 65) := (W_n W278 (by decide) rfl)
          have t_286 : (M279.2.1 77 65).toInt = (M.2.1 77 65).toInt := congrArg Int32.toInt c_285
          have c_287 : M279.2.1 77 66 = (M.2.1 77 66) := (W_n W278 (by decide) rfl)
          have t_288 : (M279.2.1 77 66).toInt = (M.2.1 77 66).toInt := congrArg Int32.toInt c_287
          have c_289 : M279.2.1 77 67 = (M.2.1 77 67) := (W_n W278 (by decide) rfl)
          have t_290 : (M279.2.1 77 67).toInt = (M.2.1 77 67).toInt := congrArg Int32.toInt c_289
          have c_291 : M279.2.1 77 68 = (M.2.1 77 68) := (W_n W278 (by decide) rfl)
          have t_292 : (M279.2.1 77 68).toInt = (M.2.1 77 68).toInt := congrArg Int32.toInt c_291
          have c_293 : M279.2.1 77 69 = v276 := (W_e W278)
          have t_294 : (M279.2.1 77 69).toInt = v276.toInt := congrArg Int32.toInt c_293
          have s_296 := Wx_f (M := M) (M1 := M279) ((M.2.1 77 65).toInt).toNat (fun i z => (W_n W278 (by omega) rfl))
          have j_295 : QK M279 := QK_i (by unfold QK_c; rw [show ((M279.2.1 77 65).toInt).toNat = ((M.2.1 77 65).toInt).toNat by omega]; refine ⟨by omega, by omega, by omega, by omega⟩) (fun i z => by rw [(W_n W278 (by omega) rfl)]; exact q2.2.1 i (by omega)) (by rw [(W_n W278 (by omega) rfl)]; exact KN_f (fun a i z => (W_n W278 (by /-r77,69-/ omega) rfl)) q2.2.2)
          refine C_223 hX (dp1 hd (by decide)) hG280 (by omega) (by omega) (by omega) j_295 (l := (1 : Int32)) (fun M302 hG298 F297 p_299 p_300 p_301 => ?_)
          have F303 := FR.c F281 F297 tg_307
          have s_304 := p_300
          have s_305 : Wo M279 ((M279.2.1 77 65).toInt).toNat = Wo M ((M.2.1 77 65).toInt).toNat := by rw [show (M279.2.1 77 65) = (M.2.1 77 65) from (W_n W278 (by omega) rfl)]; exact (Wx_f (M := M) (M1 := M279) _ (fun i z => (W_n W278 (by omega) rfl))).1
          have b_306 := g_b hG298 (a := 77) (i := 59) (lo := 0) (hi := 40) rfl rfl
          have b_307 := g_b hG298 (a := 77) (i := 65) (lo := 0) (hi := 48) rfl rfl
          have b_308 := g_b hG298 (a := 77) (i := 66) (lo := 0) (hi := 40) rfl rfl
          have c_309 : M302.2.1 77 67 = (M.2.1 77 67) := (F_n F297 (show ¬ (77 = 77 ∧ (67 = 59 ∨ 67 = 65 ∨ 67 = 66) ∨ 112 ≤ 77 ∧ 77 ≤ 114 ∧ 40 ≤ 67 ∨ 77 = 116) by decide) c_289)
          have t_310 : (M302.2.1 77 67).toInt = (M.2.1 77 67).toInt := congrArg Int32.toInt c_309
          have c_311 : M302.2.1 77 68 = (M.2.1 77 68) := (F_n F297 (show ¬ (77 = 77 ∧ (68 = 59 ∨ 68 = 65 ∨ 68 = 66) ∨ 112 ≤ 77 ∧ 77 ≤ 114 ∧ 40 ≤ 68 ∨ 77 = 116) by decide) c_291)
          have t_312 : (M302.2.1 77 68).toInt = (M.2.1 77 68).toInt := congrArg Int32.toInt c_311
          have c_313 : M302.2.1 77 69 = v276 := (F_n F297 (show ¬ (77 = 77 ∧ (69 = 59 ∨ 69 = 65 ∨ 69 = 66) ∨ 112 ≤ 77 ∧ 77 ≤ 114 ∧ 40 ≤ 69 ∨ 77 = 116) by decide) c_293)
          have t_314 : (M302.2.1 77 69).toInt = v276.toInt := congrArg Int32.toInt c_313
          have s_315 := QK_e p_299
          have s_316 := Wx_b M302 ((M302.2.1 77 65).toInt).toNat
          refine to_an (pc := 51) rw_226_51 rfl (s_gR (pc := 52) rw_226_52 hG298 rfl (v := 115) rfl (to_an (pc := 55) rw_226_55 rfl (tt_gI (pc := 56) rw_226_56 (g_o hG298 rfl) (v := (M302.2.1 77 65)) rfl (to_in (pc := 59) rw_226_59 rfl (s_ias (pc := 60) rw_226_60 hG298 rfl (n := 64) rfl (A := (M302.2.1 77 65).toInt) rfl (by omega) (by omega) (fun M318 W317 => ?_))))))
          have hG319 := g_w hG298 W317 (A := 4) rfl (lo := 0) (hi := 4) rfl rfl (by omega) (by decide)
          have F320 := FR.w F303 W317 (show 115 = 77 ∧ (((M302.2.1 77 65).toInt).toNat = 4 ∨ ((M302.2.1 77 65).toInt).toNat = 5 ∨ 7 ≤ ((M302.2.1 77 65).toInt).toNat ∧ ((M302.2.1 77 65).toInt).toNat ≤ 10) ∨ 115 = 77 ∧ (((M302.2.1 77 65).toInt).toNat = 59 ∨ 65 ≤ ((M302.2.1 77 65).toInt).toNat ∧ ((M302.2.1 77 65).toInt).toNat ≤ 69) ∨ 112 ≤ 115 ∧ 115 ≤ 114 ∧ 40 ≤ ((M302.2.1 77 65).toInt).toNat ∨ 115 = 115 ∨ 115 = 116 by omega)
          refine to_an (pc := 61) rw_226_61 rfl (to_dupr (pc := 62) rw_226_62 ?_)
          have c_321 : M318.2.1 77 65 = (M302.2.1 77 65) := (W_n W317 (fun z => absurd z.1 (by decide)) rfl)
          refine tt_gI (pc := 63) rw_226_63 (g_o hG319 rfl) (v := (M302.2.1 77 65)) c_321 (to_c (pc := 66) rw_226_66 (x := (1 : Int32)) rfl rfl (s_add (pc := 67) rw_226_67 (A := (M302.2.1 77 65).toInt) (B := 1) rfl rfl (by omega) (fun v322 e323 => s_pI (pc := 68) rw_226_68 hG319 rfl (fun M325 W324 => ?_))))
          have hG326 := g_w hG319 W324 (A := v322.toInt) rfl (lo := 0) (hi := 48) rfl rfl (by omega) (by decide)
          have F327 := FR.w F320 W324 (show 77 = 77 ∧ (65 = 4 ∨ 65 = 5 ∨ 7 ≤ 65 ∧ 65 ≤ 10) ∨ 77 = 77 ∧ (65 = 59 ∨ 65 ≤ 65 ∧ 65 ≤ 69) ∨ 112 ≤ 77 ∧ 77 ≤ 114 ∧ 40 ≤ 65 ∨ 77 = 115 ∨ 77 = 116 by decide)
          refine to_an (pc := 71) rw_226_71 rfl (to_c (pc := 72) rw_226_72 (x := (0 : Int32)) rfl rfl (s_pI (pc := 73) rw_226_73 hG326 rfl (fun M329 W328 => ?_)))
          have hG330 := g_w hG326 W328 (A := 0) rfl (lo := 0) (hi := 1) rfl rfl (by omega) (by decide)
          have F331 := FR.w F327 W328 (show 77 = 77 ∧ (68 = 4 ∨ 68 = 5 ∨ 7 ≤ 68 ∧ 68 ≤ 10) ∨ 77 = 77 ∧ (68 = 59 ∨ 65 ≤ 68 ∧ 68 ≤ 69) ∨ 112 ≤ 77 ∧ 77 ≤ 114 ∧ 40 ≤ 68 ∨ 77 = 115 ∨ 77 = 116 by decide)
          refine to_an (pc := 76) rw_226_76 rfl (s_v (pc := 77) rw_226_77 (dp0 hd (by decide)) (ls0 := [.ref 77]) rfl (Nat.le_of_ble_eq_true rfl) (Nat.le_of_ble_eq_true rfl) rfl (to_rc rfl rfl rfl (g_o hG330 rfl)) rfl ?_)
          have c_332 : M329.2.1 77 7 = (M.2.1 77 7) := (W_n W328 (by decide) (W_n W324 (by decide) (W_n W317 (fun z => absurd z.1 (by decide)) (F_n F297 (show ¬ (77 = 77 ∧ (7 = 59 ∨ 7 = 65 ∨ 7 = 66) ∨ 112 ≤ 77 ∧ 77 ≤ 114 ∧ 40 ≤ 7 ∨ 77 = 116) by decide) (W_n W278 (by decide) rfl)))))
          have t_333 : (M329.2.1 77 7).toInt = (M.2.1 77 7).toInt := congrArg Int32.toInt c_332
          have c_334 : M329.2.1 77 6 = (M.2.1 77 6) := (W_n W328 (by decide) (W_n W324 (by decide) (W_n W317 (fun z => absurd z.1 (by decide)) (F_n F297 (show ¬ (77 = 77 ∧ (6 = 59 ∨ 6 = 65 ∨ 6 = 66) ∨ 112 ≤ 77 ∧ 77 ≤ 114 ∧ 40 ≤ 6 ∨ 77 = 116) by decide) (W_n W278 (by decide) rfl)))))
          have t_335 : (M329.2.1 77 6).toInt = (M.2.1 77 6).toInt := congrArg Int32.toInt c_334
          refine C_156 hX (dp1 hd (by decide)) hG330 (by omega)  (fun M341 hG337 F336 p_338 p_339 p_340 => ?_)
          have F342 := FR.c F331 F336 tg_308
          have b_343 := g_b hG337 (a := 77) (i := 7) (lo := 0) (hi := 500) rfl rfl
          have c_344 : M341.2.1 77 6 = (M.2.1 77 6) := (F_n F336 (show ¬ (77 = 77 ∧ 7 ≤ 6 ∧ 6 ≤ 10) by decide) c_334)
          have t_345 : (M341.2.1 77 6).toInt = (M.2.1 77 6).toInt := congrArg Int32.toInt c_344
          have b_346 := g_b hG337 (a := 77) (i := 8) (lo := 0) (hi := 5) rfl rfl
          refine to_c (pc := 80) rw_226_80 (x := (1 : Int32)) rfl rfl (s_r1 (pc := 81) rw_226_81 (A := 1) rfl (by decide) ?_)
          have c_347 : M341.2.1 77 59 = (M302.2.1 77 59) := (F_n F336 (show ¬ (77 = 77 ∧ 7 ≤ 59 ∧ 59 ≤ 10) by decide) (W_n W328 (by decide) (W_n W324 (by decide) (W_n W317 (fun z => absurd z.1 (by decide)) rfl))))
          have t_348 : (M341.2.1 77 59).toInt = (M302.2.1 77 59).toInt := congrArg Int32.toInt c_347
          have c_349 : M341.2.1 77 65 = v322 := (F_n F336 (show ¬ (77 = 77 ∧ 7 ≤ 65 ∧ 65 ≤ 10) by decide) (W_n W328 (by decide) (W_e W324)))
          have t_350 : (M341.2.1 77 65).toInt = v322.toInt := congrArg Int32.toInt c_349
          have c_351 : M341.2.1 77 66 = (M302.2.1 77 66) := (F_n F336 (show ¬ (77 = 77 ∧ 7 ≤ 66 ∧ 66 ≤ 10) by decide) (W_n W328 (by decide) (W_n W324 (by decide) (W_n W317 (fun z => absurd z.1 (by decide)) rfl))))
          have t_352 : (M341.2.1 77 66).toInt = (M302.2.1 77 66).toInt := congrArg Int32.toInt c_351
          have c_353 : M341.2.1 77 67 = (M.2.1 77 67) := (F_n F336 (show ¬ (77 = 77 ∧ 7 ≤ 67 ∧ 67 ≤ 10) by decide) (W_n W328 (by decide) (W_n W324 (by decide) (W_n W317 (fun z => absurd z.1 (by decide)) c_309))))
          have t_354 : (M341.2.1 77 67).toInt = (M.2.1 77 67).toInt := congrArg Int32.toInt c_353
          have c_355 : M341.2.1 77 68 = (0 : Int32) := (F_n F336 (show ¬ (77 = 77 ∧ 7 ≤ 68 ∧ 68 ≤ 10) by decide) (W_e W328))
          have k_356 : (0 : Int32).toInt = 0 := rfl
          have t_357 : (M341.2.1 77 68).toInt = (0 : Int32).toInt := congrArg Int32.toInt c_355
          have c_358 : M341.2.1 77 69 = v276 := (F_n F336 (show ¬ (77 = 77 ∧ 7 ≤ 69 ∧ 69 ≤ 10) by decide) (W_n W328 (by decide) (W_n W324 (by decide) (W_n W317 (fun z => absurd z.1 (by decide)) c_313))))
          have t_359 : (M341.2.1 77 69).toInt = v276.toInt := congrArg Int32.toInt c_358
          have k_361 : (4 : Int32).toInt = 4 := rfl
          have s_362 := Wx_f (M := M302) (M1 := M341) ((M302.2.1 77 65).toInt).toNat (fun i z => (F_n F336 (show ¬ (115 = 77 ∧ 7 ≤ i ∧ i ≤ 10) by omega) (W_n W328 (by omega) (W_n W324 (by omega) (W_n W317 (by omega) rfl)))))
          have s_363 : (M341.2.1 115 ((M302.2.1 77 65).toInt).toNat).toInt = (4 : Int32).toInt := by rw [show ((M302.2.1 77 65).toInt).toNat = ((M302.2.1 77 65).toInt).toNat by omega]; exact congrArg Int32.toInt (F_n F336 (show ¬ (115 = 77 ∧ 7 ≤ (((M302.2.1 77 65).toInt).toNat) ∧ (((M302.2.1 77 65).toInt).toNat) ≤ 10) by omega) (W_n W328 (by omega) (W_n W324 (by omega) (W_e W317))))
          have s_364 := Wx_s M341 ((M302.2.1 77 65).toInt).toNat
          have j_360 : QK M341 := QK_i (by unfold QK_c; rw [show ((M341.2.1 77 65).toInt).toNat = ((M302.2.1 77 65).toInt).toNat + 1 by omega]; refine ⟨by omega, by omega, by omega, by omega⟩) (fun i z => by
              by_cases ei : i = ((M302.2.1 77 65).toInt).toNat
              · rw [ei]; omega
              · rw [(F_n F336 (show ¬ (115 = 77 ∧ 7 ≤ i ∧ i ≤ 10) by omega) (W_n W328 (by omega) (W_n W324 (by omega) (W_n W317 (by omega) rfl))))]; exact p_299.2.1 i (by omega)) (by rw [(F_n F336 (show ¬ (77 = 77 ∧ 7 ≤ 59 ∧ 59 ≤ 10) by decide) (W_n W328 (by omega) (W_n W324 (by omega) (W_n W317 (by omega) rfl))))]; exact KN_f (fun a i z => (F_n F336 (show ¬ (a = 77 ∧ 7 ≤ i ∧ i ≤ 10) by omega) (W_n W328 (by /-r77,68-/ omega) (W_n W324 (by /-r77,65-/ omega) (W_n W317 (by /-r115-/ omega) rfl))))) p_299.2.2)
          exact h (1 : Int32) M341 hG337 F342 (by decide) (by decide) (by omega) (by omega) (by omega) (by omega) (fun _ => j_360)
        · refine to_an (pc := 9) rw_224_9 rfl (to_c (pc := 10) rw_224_10 (x := (2 : Int32)) rfl rfl (s_v (pc := 11) rw_224_11 (dp1 hd (by decide)) (ls0 := [.ref 77, .int (2 : Int32)]) rfl (Nat.le_of_ble_eq_true rfl) (Nat.le_of_ble_eq_true rfl) rfl (to_rc rfl rfl rfl (g_o hG rfl)) rfl (to_an (pc := 0) rw_152_0 rfl (to_in (pc := 1) rw_152_1 rfl (s_pI (pc := 2) rw_152_2 hG rfl (fun M366 W365 => ?_))))))
          have hG367 := g_wf hG W365 rfl rfl (by decide)
          have F368 := FR.w F0 W365 (show 77 = 77 ∧ (4 = 4 ∨ 4 = 5 ∨ 7 ≤ 4 ∧ 4 ≤ 10) ∨ 77 = 77 ∧ (4 = 59 ∨ 65 ≤ 4 ∧ 4 ≤ 69) ∨ 112 ≤ 77 ∧ 77 ≤ 114 ∧ 40 ≤ 4 ∨ 77 = 115 ∨ 77 = 116 by decide)
          refine to_an (pc := 5) rw_152_5 rfl (to_an (pc := 6) rw_152_6 rfl ?_)
          have c_369 : M366.2.1 77 10 = (M.2.1 77 10) := (W_n W365 (by decide) rfl)
          have b_370 := g_b hG (a := 77) (i := 10) (lo := 0) (hi := 500) rfl rfl
          refine tt_gI (pc := 7) rw_152_7 (g_o hG367 rfl) (v := (M.2.1 77 10)) c_369 (s_pI (pc := 10) rw_152_10 hG367 rfl (fun M372 W371 => ?_))
          have hG373 := g_wf hG367 W371 rfl rfl (by decide)
          have F374 := FR.w F368 W371 (show 77 = 77 ∧ (5 = 4 ∨ 5 = 5 ∨ 7 ≤ 5 ∧ 5 ≤ 10) ∨ 77 = 77 ∧ (5 = 59 ∨ 65 ≤ 5 ∧ 5 ≤ 69) ∨ 112 ≤ 77 ∧ 77 ≤ 114 ∧ 40 ≤ 5 ∨ 77 = 115 ∨ 77 = 116 by decide)
          refine to_c (pc := 13) rw_152_13 (x := (0 : Int32)) rfl rfl (s_r1 (pc := 14) rw_152_14 (A := 0) rfl (by decide) (s_r1 (pc := 14) rw_224_14 (A := 0) rfl (by decide) (b_ine_f (pc := 37) rw_226_37 (A := 0) rfl (by decide) (to_c (pc := 40) rw_226_40 (x := (0 : Int32)) rfl rfl (s_r1 (pc := 41) rw_226_41 (A := 0) rfl (by decide) ?_)))))
          have k_375 : (0 : Int32).toInt = 0 := rfl
          have c_376 : M372.2.1 77 7 = (M.2.1 77 7) := (W_n W371 (by decide) (W_n W365 (by decide) rfl))
          have t_377 : (M372.2.1 77 7).toInt = (M.2.1 77 7).toInt := congrArg Int32.toInt c_376
          have c_378 : M372.2.1 77 6 = (M.2.1 77 6) := (W_n W371 (by decide) (W_n W365 (by decide) rfl))
          have t_379 : (M372.2.1 77 6).toInt = (M.2.1 77 6).toInt := congrArg Int32.toInt c_378
          have c_380 : M372.2.1 77 8 = (M.2.1 77 8) := (W_n W371 (by decide) (W_n W365 (by decide) rfl))
          have t_381 : (M372.2.1 77 8).toInt = (M.2.1 77 8).toInt := congrArg Int32.toInt c_380
          exact h (0 : Int32) M372 hG373 F374 (by decide) (by decide) (by omega) (by omega) (by omega) (by omega) (fun z => absurd z (by omega))
    · refine to_c (pc := 16) rw_158_16 (x := (1 : Int32)) rfl rfl (to_go (pc := 17) rw_158_17 (s_r1 (pc := 21) rw_158_21 (A := 1) rfl (by decide) (b_ine_t (pc := 6) rw_226_6 (A := 1) rfl (by decide) (to_an (pc := 18) rw_226_18 rfl (tt_gI (pc := 19) rw_226_19 (g_o hG rfl) (v := (M.2.1 77 9)) rfl (to_c (pc := 22) rw_226_22 (x := (12 : Int32)) rfl rfl (b_cne_f (pc := 24) rw_226_24 (A := (M.2.1 77 9).toInt) (B := 12) rfl rfl (by omega) (to_c (pc := 27) rw_226_27 (x := (3 : Int32)) rfl rfl (to_go (pc := 28) rw_226_28 (to_isn (pc := 32) rw_226_32 (ls2 := [.ref 77, .int (3 : Int32)]) rfl rfl (to_an (pc := 33) rw_226_33 rfl ?_)))))))))))
      refine s_v (pc := 34) rw_226_34 (dp0 hd (by decide)) (ls0 := [.ref 77]) rfl (Nat.le_of_ble_eq_true rfl) (Nat.le_of_ble_eq_true rfl) rfl (to_rc rfl rfl rfl (g_o hG rfl)) rfl (to_an (pc := 0) rw_224_0 rfl (tt_gI (pc := 1) rw_224_1 (g_o hG rfl) (v := (M.2.1 77 69)) rfl (to_c (pc := 4) rw_224_4 (x := (40 : Int32)) rfl rfl (b_cne (pc := 6) rw_224_6 (A := (M.2.1 77 69).toInt) (B := 40) rfl rfl (fun h382 => ?_) (fun h382 => ?_)))))
      · refine to_an (pc := 15) rw_224_15 rfl (to_dupr (pc := 16) rw_224_16 (tt_gI (pc := 17) rw_224_17 (g_o hG rfl) (v := (M.2.1 77 69)) rfl (to_c (pc := 20) rw_224_20 (x := (1 : Int32)) rfl rfl (s_add (pc := 21) rw_224_21 (A := (M.2.1 77 69).toInt) (B := 1) rfl rfl (by omega) (fun v383 e384 => s_pI (pc := 22) rw_224_22 hG rfl (fun M386 W385 => ?_))))))
        have hG387 := g_w hG W385 (A := v383.toInt) rfl (lo := 0) (hi := 40) rfl rfl (by omega) (by decide)
        have F388 := FR.w F0 W385 (show 77 = 77 ∧ (69 = 4 ∨ 69 = 5 ∨ 7 ≤ 69 ∧ 69 ≤ 10) ∨ 77 = 77 ∧ (69 = 59 ∨ 65 ≤ 69 ∧ 69 ≤ 69) ∨ 112 ≤ 77 ∧ 77 ≤ 114 ∧ 40 ≤ 69 ∨ 77 = 115 ∨ 77 = 116 by decide)
        refine to_c (pc := 25) rw_224_25 (x := (1 : Int32)) rfl rfl (s_r1 (pc := 26) rw_224_26 (A := 1) rfl (by decide) (b_ine_t (pc := 37) rw_226_37 (A := 1) rfl (by decide) (to_an (pc := 42) rw_226_42 rfl (to_an (pc := 43) rw_226_43 rfl (to_in (pc := 44) rw_226_44 rfl (s_v (pc := 45) rw_226_45 (dp0 hd (by decide)) (ls0 := [.ref 77, .int (3 : Int32)]) rfl (Nat.le_of_ble_eq_true rfl) (Nat.le_of_ble_eq_true rfl) rfl (to_rc rfl rfl rfl (g_o hG387 rfl)) rfl (to_in (pc := 0) rw_220_0 rfl (to_c (pc := 1) rw_220_1 (x := (2 : Int32)) rfl rfl (b_cne_t (pc := 2) rw_220_2 (A := 3) (B := 2) rfl rfl (by decide) (to_in (pc := 9) rw_220_9 rfl (to_c (pc := 10) rw_220_10 (x := (3 : Int32)) rfl rfl ?_)))))))))))
        refine b_cne_f (pc := 11) rw_220_11 (A := 3) (B := 3) rfl rfl (by decide) (to_c (pc := 14) rw_220_14 (x := (2 : Int32)) rfl rfl (to_go (pc := 15) rw_220_15 (to_r0 (pc := 28) rw_220_28 (s_v (pc := 48) rw_226_48 (dp0 hd (by decide)) (ls0 := [.ref 77, .int (2 : Int32), .null, .null, .null]) rfl (Nat.le_of_ble_eq_true rfl) (Nat.le_of_ble_eq_true rfl) rfl (to_rc rfl rfl rfl (g_o hG387 rfl)) rfl ?_))))
        have k_389 : (2 : Int32).toInt = 2 := rfl
        have c_390 : M386.2.1 77 59 = (M.2.1 77 59) := (W_n W385 (by decide) rfl)
        have t_391 : (M386.2.1 77 59).toInt = (M.2.1 77 59).toInt := congrArg Int32.toInt c_390
        have c_392 : M386.2.1 77 65 = (M.2.1 77 65) := (W_n W385 (by decide) rfl)
        have t_393 : (M386.2.1 77 65).toInt = (M.2.1 77 65).toInt := congrArg Int32.toInt c_392
        have c_394 : M386.2.1 77 66 = (M.2.1 77 66) := (W_n W385 (by decide) rfl)
        have t_395 : (M386.2.1 77 66).toInt = (M.2.1 77 66).toInt := congrArg Int32.toInt c_394
        have c_396 : M386.2.1 77 67 = (M.2.1 77 67) := (W_n W385 (by decide) rfl)
        have t_397 : (M386.2.1 77 67).toInt = (M.2.1 77 67).toInt := congrArg Int32.toInt c_396
        have c_398 : M386.2.1 77 68 = (M.2.1 77 68) := (W_n W385 (by decide) rfl)
        have t_399 : (M386.2.1 77 68).toInt = (M.2.1 77 68).toInt := congrArg Int32.toInt c_398
        have c_400 : M386.2.1 77 69 = v383 := (W_e W385)
        have t_401 : (M386.2.1 77 69).toInt = v383.toInt := congrArg Int32.toInt c_400
        have s_403 := Wx_f (M := M) (M1 := M386) ((M.2.1 77 65).toInt).toNat (fun i z => (W_n W385 (by omega) rfl))
        have j_402 : QK M386 := QK_i (by unfold QK_c; rw [show ((M386.2.1 77 65).toInt).toNat = ((M.2.1 77 65).toInt).toNat by omega]; refine ⟨by omega, by omega, by omega, by omega⟩) (fun i z => by rw [(W_n W385 (by omega) rfl)]; exact q2.2.1 i (by omega)) (by rw [(W_n W385 (by omega) rfl)]; exact KN_f (fun a i z => (W_n W385 (by /-r77,69-/ omega) rfl)) q2.2.2)
        refine C_223 hX (dp1 hd (by decide)) hG387 (by omega) (by omega) (by omega) j_402 (l := (2 : Int32)) (fun M409 hG405 F404 p_406 p_407 p_408 => ?_)
        have F410 := FR.c F388 F404 tg_307
        have s_411 := p_407
        have s_412 : Wo M386 ((M386.2.1 77 65).toInt).toNat = Wo M ((M.2.1 77 65).toInt).toNat := by rw [show (M386.2.1 77 65) = (M.2.1 77 65) from (W_n W385 (by omega) rfl)]; exact (Wx_f (M := M) (M1 := M386) _ (fun i z => (W_n W385 (by omega) rfl))).1
        have b_413 := g_b hG405 (a := 77) (i := 59) (lo := 0) (hi := 40) rfl rfl
        have b_414 := g_b hG405 (a := 77) (i := 65) (lo := 0) (hi := 48) rfl rfl
        have b_415 := g_b hG405 (a := 77) (i := 66) (lo := 0) (hi := 40) rfl rfl
        have c_416 : M409.2.1 77 67 = (M.2.1 77 67) := (F_n F404 (show ¬ (77 = 77 ∧ (67 = 59 ∨ 67 = 65 ∨ 67 = 66) ∨ 112 ≤ 77 ∧ 77 ≤ 114 ∧ 40 ≤ 67 ∨ 77 = 116) by decide) c_396)
        have t_417 : (M409.2.1 77 67).toInt = (M.2.1 77 67).toInt := congrArg Int32.toInt c_416
        have c_418 : M409.2.1 77 68 = (M.2.1 77 68) := (F_n F404 (show ¬ (77 = 77 ∧ (68 = 59 ∨ 68 = 65 ∨ 68 = 66) ∨ 112 ≤ 77 ∧ 77 ≤ 114 ∧ 40 ≤ 68 ∨ 77 = 116) by decide) c_398)
        have t_419 : (M409.2.1 77 68).toInt = (M.2.1 77 68).toInt := congrArg Int32.toInt c_418
        have c_420 : M409.2.1 77 69 = v383 := (F_n F404 (show ¬ (77 = 77 ∧ (69 = 59 ∨ 69 = 65 ∨ 69 = 66) ∨ 112 ≤ 77 ∧ 77 ≤ 114 ∧ 40 ≤ 69 ∨ 77 = 116) by decide) c_400)
        have t_421 : (M409.2.1 77 69).toInt = v383.toInt := congrArg Int32.toInt c_420
        have s_422 := QK_e p_406
        have s_423 := Wx_b M409 ((M409.2.1 77 65).toInt).toNat
        refine to_an (pc := 51) rw_226_51 rfl (s_gR (pc := 52) rw_226_52 hG405 rfl (v := 115) rfl (to_an (pc := 55) rw_226_55 rfl (tt_gI (pc := 56) rw_226_56 (g_o hG405 rfl) (v := (M409.2.1 77 65)) rfl (to_in (pc := 59) rw_226_59 rfl (s_ias (pc := 60) rw_226_60 hG405 rfl (n := 64) rfl (A := (M409.2.1 77 65).toInt) rfl (by omega) (by omega) (fun M425 W424 => ?_))))))
        have hG426 := g_w hG405 W424 (A := 3) rfl (lo := 0) (hi := 4) rfl rfl (by omega) (by decide)
        have F427 := FR.w F410 W424 (show 115 = 77 ∧ (((M409.2.1 77 65).toInt).toNat = 4 ∨ ((M409.2.1 77 65).toInt).toNat = 5 ∨ 7 ≤ ((M409.2.1 77 65).toInt).toNat ∧ ((M409.2.1 77 65).toInt).toNat ≤ 10) ∨ 115 = 77 ∧ (((M409.2.1 77 65).toInt).toNat = 59 ∨ 65 ≤ ((M409.2.1 77 65).toInt).toNat ∧ ((M409.2.1 77 65).toInt).toNat ≤ 69) ∨ 112 ≤ 115 ∧ 115 ≤ 114 ∧ 40 ≤ ((M409.2.1 77 65).toInt).toNat ∨ 115 = 115 ∨ 115 = 116 by omega)
        refine to_an (pc := 61) rw_226_61 rfl (to_dupr (pc := 62) rw_226_62 ?_)
        have c_428 : M425.2.1 77 65 = (M409.2.1 77 65) := (W_n W424 (fun z => absurd z.1 (by decide)) rfl)
        refine tt_gI (pc := 63) rw_226_63 (g_o hG426 rfl) (v := (M409.2.1 77 65)) c_428 (to_c (pc := 66) rw_226_66 (x := (1 : Int32)) rfl rfl (s_add (pc := 67) rw_226_67 (A := (M409.2.1 77 65).toInt) (B := 1) rfl rfl (by omega) (fun v429 e430 => s_pI (pc := 68) rw_226_68 hG426 rfl (fun M432 W431 => ?_))))
        have hG433 := g_w hG426 W431 (A := v429.toInt) rfl (lo := 0) (hi := 48) rfl rfl (by omega) (by decide)
        have F434 := FR.w F427 W431 (show 77 = 77 ∧ (65 = 4 ∨ 65 = 5 ∨ 7 ≤ 65 ∧ 65 ≤ 10) ∨ 77 = 77 ∧ (65 = 59 ∨ 65 ≤ 65 ∧ 65 ≤ 69) ∨ 112 ≤ 77 ∧ 77 ≤ 114 ∧ 40 ≤ 65 ∨ 77 = 115 ∨ 77 = 116 by decide)
        refine to_an (pc := 71) rw_226_71 rfl (to_c (pc := 72) rw_226_72 (x := (0 : Int32)) rfl rfl (s_pI (pc := 73) rw_226_73 hG433 rfl (fun M436 W435 => ?_)))
        have hG437 := g_w hG433 W435 (A := 0) rfl (lo := 0) (hi := 1) rfl rfl (by omega) (by decide)
        have F438 := FR.w F434 W435 (show 77 = 77 ∧ (68 = 4 ∨ 68 = 5 ∨ 7 ≤ 68 ∧ 68 ≤ 10) ∨ 77 = 77 ∧ (68 = 59 ∨ 65 ≤ 68 ∧ 68 ≤ 69) ∨ 112 ≤ 77 ∧ 77 ≤ 114 ∧ 40 ≤ 68 ∨ 77 = 115 ∨ 77 = 116 by decide)
        refine to_an (pc := 76) rw_226_76 rfl (s_v (pc := 77) rw_226_77 (dp0 hd (by decide)) (ls0 := [.ref 77]) rfl (Nat.le_of_ble_eq_true rfl) (Nat.le_of_ble_eq_true rfl) rfl (to_rc rfl rfl rfl (g_o hG437 rfl)) rfl ?_)
        have c_439 : M436.2.1 77 7 = (M.2.1 77 7) := (W_n W435 (by decide) (W_n W431 (by decide) (W_n W424 (fun z => absurd z.1 (by decide)) (F_n F404 (show ¬ (77 = 77 ∧ (7 = 59 ∨ 7 = 65 ∨ 7 = 66) ∨ 112 ≤ 77 ∧ 77 ≤ 114 ∧ 40 ≤ 7 ∨ 77 = 116) by decide) (W_n W385 (by decide) rfl)))))
        have t_440 : (M436.2.1 77 7).toInt = (M.2.1 77 7).toInt := congrArg Int32.toInt c_439
        have c_441 : M436.2.1 77 6 = (M.2.1 77 6) := (W_n W435 (by decide) (W_n W431 (by decide) (W_n W424 (fun z => absurd z.1 (by decide)) (F_n F404 (show ¬ (77 = 77 ∧ (6 = 59 ∨ 6 = 65 ∨ 6 = 66) ∨ 112 ≤ 77 ∧ 77 ≤ 114 ∧ 40 ≤ 6 ∨ 77 = 116) by decide) (W_n W385 (by decide) rfl)))))
        have t_442 : (M436.2.1 77 6).toInt = (M.2.1 77 6).toInt := congrArg Int32.toInt c_441
        refine C_156 hX (dp1 hd (by decide)) hG437 (by omega)  (fun M448 hG444 F443 p_445 p_446 p_447 => ?_)
        have F449 := FR.c F438 F443 tg_308
        have b_450 := g_b hG444 (a := 77) (i := 7) (lo := 0) (hi := 500) rfl rfl
        have c_451 : M448.2.1 77 6 = (M.2.1 77 6) := (F_n F443 (show ¬ (77 = 77 ∧ 7 ≤ 6 ∧ 6 ≤ 10) by decide) c_441)
        have t_452 : (M448.2.1 77 6).toInt = (M.2.1 77 6).toInt := congrArg Int32.toInt c_451
        have b_453 := g_b hG444 (a := 77) (i := 8) (lo := 0) (hi := 5) rfl rfl
        refine to_c (pc := 80) rw_226_80 (x := (1 : Int32)) rfl rfl (s_r1 (pc := 81) rw_226_81 (A := 1) rfl (by decide) ?_)
        have k_454 : (1 : Int32).toInt = 1 := rfl
        have c_455 : M448.2.1 77 59 = (M409.2.1 77 59) := (F_n F443 (show ¬ (77 = 77 ∧ 7 ≤ 59 ∧ 59 ≤ 10) by decide) (W_n W435 (by decide) (W_n W431 (by decide) (W_n W424 (fun z => absurd z.1 (by decide)) rfl))))
        have t_456 : (M448.2.1 77 59).toInt = (M409.2.1 77 59).toInt := congrArg Int32.toInt c_455
        have c_457 : M448.2.1 77 65 = v429 := (F_n F443 (show ¬ (77 = 77 ∧ 7 ≤ 65 ∧ 65 ≤ 10) by decide) (W_n W435 (by decide) (W_e W431)))
        have t_458 : (M448.2.1 77 65).toInt = v429.toInt := congrArg Int32.toInt c_457
        have c_459 : M448.2.1 77 66 = (M409.2.1 77 66) := (F_n F443 (show ¬ (77 = 77 ∧ 7 ≤ 66 ∧ 66 ≤ 10) by decide) (W_n W435 (by decide) (W_n W431 (by decide) (W_n W424 (fun z => absurd z.1 (by decide)) rfl))))
        have t_460 : (M448.2.1 77 66).toInt = (M409.2.1 77 66).toInt := congrArg Int32.toInt c_459
        have c_461 : M448.2.1 77 67 = (M.2.1 77 67) := (F_n F443 (show ¬ (77 = 77 ∧ 7 ≤ 67 ∧ 67 ≤ 10) by decide) (W_n W435 (by decide) (W_n W431 (by decide) (W_n W424 (fun z => absurd z.1 (by decide)) c_416))))
        have t_462 : (M448.2.1 77 67).toInt = (M.2.1 77 67).toInt := congrArg Int32.toInt c_461
        have c_463 : M448.2.1 77 68 = (0 : Int32) := (F_n F443 (show ¬ (77 = 77 ∧ 7 ≤ 68 ∧ 68 ≤ 10) by decide) (W_e W435))
        have k_464 : (0 : Int32).toInt = 0 := rfl
        have t_465 : (M448.2.1 77 68).toInt = (0 : Int32).toInt := congrArg Int32.toInt c_463
        have c_466 : M448.2.1 77 69 = v383 := (F_n F443 (show ¬ (77 = 77 ∧ 7 ≤ 69 ∧ 69 ≤ 10) by decide) (W_n W435 (by decide) (W_n W431 (by decide) (W_n W424 (fun z => absurd z.1 (by decide)) c_420))))
        have t_467 : (M448.2.1 77 69).toInt = v383.toInt := congrArg Int32.toInt c_466
        have k_469 : (3 : Int32).toInt = 3 := rfl
        have s_470 := Wx_f (M := M409) (M1 := M448) ((M409.2.1 77 65).toInt).toNat (fun i z => (F_n F443 (show ¬ (115 = 77 ∧ 7 ≤ i ∧ i ≤ 10) by omega) (W_n W435 (by omega) (W_n W431 (by omega) (W_n W424 (by omega) rfl)))))
        have s_471 : (M448.2.1 115 ((M409.2.1 77 65).toInt).toNat).toInt = (3 : Int32).toInt := by rw [show ((M409.2.1 77 65).toInt).toNat = ((M409.2.1 77 65).toInt).toNat by omega]; exact congrArg Int32.toInt (F_n F443 (show ¬ (115 = 77 ∧ 7 ≤ (((M409.2.1 77 65).toInt).toNat) ∧ (((M409.2.1 77 65).toInt).toNat) ≤ 10) by omega) (W_n W435 (by omega) (W_n W431 (by omega) (W_e W424))))
        have s_472 := Wx_s M448 ((M409.2.1 77 65).toInt).toNat
        have j_468 : QK M448 := QK_i (by unfold QK_c; rw [show ((M448.2.1 77 65).toInt).toNat = ((M409.2.1 77 65).toInt).toNat + 1 by omega]; refine ⟨by omega, by omega, by omega, by omega⟩) (fun i z => by
            by_cases ei : i = ((M409.2.1 77 65).toInt).toNat
            · rw [ei]; omega
            · rw [(F_n F443 (show ¬ (115 = 77 ∧ 7 ≤ i ∧ i ≤ 10) by omega) (W_n W435 (by omega) (W_n W431 (by omega) (W_n W424 (by omega) rfl))))]; exact p_406.2.1 i (by omega)) (by rw [(F_n F443 (show ¬ (77 = 77 ∧ 7 ≤ 59 ∧ 59 ≤ 10) by decide) (W_n W435 (by omega) (W_n W431 (by omega) (W_n W424 (by omega) rfl))))]; exact KN_f (fun a i z => (F_n F443 (show ¬ (a = 77 ∧ 7 ≤ i ∧ i ≤ 10) by omega) (W_n W435 (by /-r77,68-/ omega) (W_n W431 (by /-r77,65-/ omega) (W_n W424 (by /-r115-/ omega) rfl))))) p_406.2.2)
        exact h (1 : Int32) M448 hG444 F449 (by decide) (by decide) (by omega) (by omega) (by omega) (by omega) (fun _ => j_468)
      · refine to_an (pc := 9) rw_224_9 rfl (to_c (pc := 10) rw_224_10 (x := (2 : Int32)) rfl rfl (s_v (pc := 11) rw_224_11 (dp1 hd (by decide)) (ls0 := [.ref 77, .int (2 : Int32)]) rfl (Nat.le_of_ble_eq_true rfl) (Nat.le_of_ble_eq_true rfl) rfl (to_rc rfl rfl rfl (g_o hG rfl)) rfl (to_an (pc := 0) rw_152_0 rfl (to_in (pc := 1) rw_152_1 rfl (s_pI (pc := 2) rw_152_2 hG rfl (fun M474 W473 => ?_))))))
        have hG475 := g_wf hG W473 rfl rfl (by decide)
        have F476 := FR.w F0 W473 (show 77 = 77 ∧ (4 = 4 ∨ 4 = 5 ∨ 7 ≤ 4 ∧ 4 ≤ 10) ∨ 77 = 77 ∧ (4 = 59 ∨ 65 ≤ 4 ∧ 4 ≤ 69) ∨ 112 ≤ 77 ∧ 77 ≤ 114 ∧ 40 ≤ 4 ∨ 77 = 115 ∨ 77 = 116 by decide)
        refine to_an (pc := 5) rw_152_5 rfl (to_an (pc := 6) rw_152_6 rfl ?_)
        have c_477 : M474.2.1 77 10 = (M.2.1 77 10) := (W_n W473 (by decide) rfl)
        have b_478 := g_b hG (a := 77) (i := 10) (lo := 0) (hi := 500) rfl rfl
        refine tt_gI (pc := 7) rw_152_7 (g_o hG475 rfl) (v := (M.2.1 77 10)) c_477 (s_pI (pc := 10) rw_152_10 hG475 rfl (fun M480 W479 => ?_))
        have hG481 := g_wf hG475 W479 rfl rfl (by decide)
        have F482 := FR.w F476 W479 (show 77 = 77 ∧ (5 = 4 ∨ 5 = 5 ∨ 7 ≤ 5 ∧ 5 ≤ 10) ∨ 77 = 77 ∧ (5 = 59 ∨ 65 ≤ 5 ∧ 5 ≤ 69) ∨ 112 ≤ 77 ∧ 77 ≤ 114 ∧ 40 ≤ 5 ∨ 77 = 115 ∨ 77 = 116 by decide)
        refine to_c (pc := 13) rw_152_13 (x := (0 : Int32)) rfl rfl (s_r1 (pc := 14) rw_152_14 (A := 0) rfl (by decide) (s_r1 (pc := 14) rw_224_14 (A := 0) rfl (by decide) (b_ine_f (pc := 37) rw_226_37 (A := 0) rfl (by decide) (to_c (pc := 40) rw_226_40 (x := (0 : Int32)) rfl rfl (s_r1 (pc := 41) rw_226_41 (A := 0) rfl (by decide) ?_)))))
        have k_483 : (0 : Int32).toInt = 0 := rfl
        have c_484 : M480.2.1 77 7 = (M.2.1 77 7) := (W_n W479 (by decide) (W_n W473 (by decide) rfl))
        have t_485 : (M480.2.1 77 7).toInt = (M.2.1 77 7).toInt := congrArg Int32.toInt c_484
        have c_486 : M480.2.1 77 6 = (M.2.1 77 6) := (W_n W479 (by decide) (W_n W473 (by decide) rfl))
        have t_487 : (M480.2.1 77 6).toInt = (M.2.1 77 6).toInt := congrArg Int32.toInt c_486
        have c_488 : M480.2.1 77 8 = (M.2.1 77 8) := (W_n W479 (by decide) (W_n W473 (by decide) rfl))
        have t_489 : (M480.2.1 77 8).toInt = (M.2.1 77 8).toInt := congrArg Int32.toInt c_488
        exact h (0 : Int32) M480 hG481 F482 (by decide) (by decide) (by omega) (by omega) (by omega) (by omega) (fun z => absurd z (by omega))
