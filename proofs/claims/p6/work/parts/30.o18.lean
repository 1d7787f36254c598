theorem tg_388 : ∀ a i : Nat, (a = 77 ∧ (i = 59 ∨ i = 65 ∨ i = 66) ∨ 112 ≤ a ∧ a ≤ 114 ∧ 40 ≤ i ∨ a = 116) → (a = 77 ∧ (i = 4 ∨ i = 5 ∨ 7 ≤ i ∧ i ≤ 10) ∨ a = 77 ∧ (i = 59 ∨ 65 ≤ i ∧ i ≤ 69) ∨ 112 ≤ a ∧ a ≤ 114 ∧ 40 ≤ i ∨ a = 115 ∨ a = 116) := fun a i z => by omega
theorem tg_389 : ∀ a i : Nat, (a = 77 ∧ 7 ≤ i ∧ i ≤ 10) → (a = 77 ∧ (i = 4 ∨ i = 5 ∨ 7 ≤ i ∧ i ≤ 10) ∨ a = 77 ∧ (i = 59 ∨ 65 ≤ i ∧ i ≤ 69) ∨ 112 ≤ a ∧ a ≤ 114 ∧ 40 ≤ i ∨ a = 115 ∨ a = 116) := fun a i z => by omega
set_option maxRecDepth 4000 in
set_option maxHeartbeats 0 in
theorem C_226 {X : mm_X} {d : Nat} {M : mm_M} {Q : Option Value → mm_M → Prop} (hX : g_X X) (hd : 2 ≤ d) (hG : g_G M) (q1 : (M.2.1 77 7).toInt ≤ (M.2.1 77 6).toInt) (q2 : QK M) (q3 : (M.2.1 77 68).toInt = 1) (h : ∀ (r : Int32) (M1 : mm_M), g_G M1 → FR md_qr M M1 → (0 ≤ r.toInt) → (r.toInt ≤ 1) → ((M1.2.1 77 7).toInt ≤ (M1.2.1 77 6).toInt) → ((M.2.1 77 7).toInt ≤ (M1.2.1 77 7).toInt) → (r.toInt = 1 → (M1.2.1 77 8).toInt = 0 ∨ (M.2.1 77 7).toInt < (M1.2.1 77 7).toInt) → (r.toInt = 1 → ¬ (M.2.1 77 8).toInt = 0) → (r.toInt = 1 → QK M1) → (r.toInt = 1 → (M1.2.1 77 4).toInt = (M.2.1 77 4).toInt ∧ (M1.2.1 77 5).toInt = (M.2.1 77 5).toInt) → Q (some (.int r)) M1) : mm_T X d 225 0 [.ref 77, .null] [] M Q := by
  have F0 : FR md_qr M M := FR.rf
  have b_1 := g_b hG (a := 77) (i := 7) (lo := 0) (hi := 500) rfl rfl
  have b_2 := g_b hG (a := 77) (i := 6) (lo := 0) (hi := 500) rfl rfl
  have b_3 := g_b hG (a := 77) (i := 68) (lo := 0) (hi := 1) rfl rfl
  have b_4 := g_b hG (a := 77) (i := 59) (lo := 0) (hi := 40) rfl rfl
  have b_5 := g_b hG (a := 77) (i := 65) (lo := 0) (hi := 48) rfl rfl
  have b_6 := g_b hG (a := 77) (i := 66) (lo := 0) (hi := 40) rfl rfl
  have b_7 := g_b hG (a := 77) (i := 67) (lo := 0) (hi := 8) rfl rfl
  have b_8 := g_b hG (a := 77) (i := 69) (lo := 0) (hi := 40) rfl rfl
  have s_9 := QK_e q2
  have s_10 := Wx_b M ((M.2.1 77 65).toInt).toNat
  refine to_an (pc := 0) rw_226_0 rfl (to_c (pc := 1) rw_226_1 (x := (12 : Int32)) rfl rfl (s_v (pc := 3) rw_226_3 (dp0 hd (by decide)) (ls0 := [.ref 77, .int (12 : Int32)]) rfl (Nat.le_of_ble_eq_true rfl) (Nat.le_of_ble_eq_true rfl) rfl (to_rc rfl rfl rfl (g_o hG rfl)) rfl (to_an (pc := 0) rw_158_0 rfl ?_)))
  have b_11 := g_b hG (a := 77) (i := 8) (lo := 0) (hi := 5) rfl rfl
  refine tt_gI (pc := 1) rw_158_1 (g_o hG rfl) (v := (M.2.1 77 8)) rfl (to_c (pc := 4) rw_158_4 (x := (1 : Int32)) rfl rfl (b_cne (pc := 5) rw_158_5 (A := (M.2.1 77 8).toInt) (B := 1) rfl rfl (fun h12 => ?_) (fun h12 => ?_)))
  · refine to_c (pc := 20) rw_158_20 (x := (0 : Int32)) rfl rfl (s_r1 (pc := 21) rw_158_21 (A := 0) rfl (by decide) (b_ine_f (pc := 6) rw_226_6 (A := 0) rfl (by decide) (to_an (pc := 9) rw_226_9 rfl (to_c (pc := 10) rw_226_10 (x := (13 : Int32)) rfl rfl (s_v (pc := 12) rw_226_12 (dp0 hd (by decide)) (ls0 := [.ref 77, .int (13 : Int32)]) rfl (Nat.le_of_ble_eq_true rfl) (Nat.le_of_ble_eq_true rfl) rfl (to_rc rfl rfl rfl (g_o hG rfl)) rfl (to_an (pc := 0) rw_158_0 rfl (tt_gI (pc := 1) rw_158_1 (g_o hG rfl) (v := (M.2.1 77 8)) rfl (to_c (pc := 4) rw_158_4 (x := (1 : Int32)) rfl rfl (b_cne (pc := 5) rw_158_5 (A := (M.2.1 77 8).toInt) (B := 1) rfl rfl (fun h13 => ?_) (fun h13 => ?_))))))))))
    · refine to_c (pc := 20) rw_158_20 (x := (0 : Int32)) rfl rfl (s_r1 (pc := 21) rw_158_21 (A := 0) rfl (by decide) (b_ieq_t (pc := 15) rw_226_15 (A := 0) rfl (by decide) (to_an (pc := 82) rw_226_82 rfl (to_c (pc := 83) rw_226_83 (x := (41 : Int32)) rfl rfl (s_v (pc := 85) rw_226_85 (dp0 hd (by decide)) (ls0 := [.ref 77, .int (41 : Int32)]) rfl (Nat.le_of_ble_eq_true rfl) (Nat.le_of_ble_eq_true rfl) rfl (to_rc rfl rfl rfl (g_o hG rfl)) rfl (to_an (pc := 0) rw_159_0 rfl (tt_gI (pc := 1) rw_159_1 (g_o hG rfl) (v := (M.2.1 77 8)) rfl (to_c (pc := 4) rw_159_4 (x := (4 : Int32)) rfl rfl (b_cne (pc := 5) rw_159_5 (A := (M.2.1 77 8).toInt) (B := 4) rfl rfl (fun h14 => ?_) (fun h14 => ?_))))))))))
      · refine to_c (pc := 20) rw_159_20 (x := (0 : Int32)) rfl rfl (s_r1 (pc := 21) rw_159_21 (A := 0) rfl (by decide) (b_ieq_t (pc := 88) rw_226_88 (A := 0) rfl (by decide) (to_an (pc := 98) rw_226_98 rfl (to_c (pc := 99) rw_226_99 (x := (1 : Int32)) rfl rfl (s_v (pc := 100) rw_226_100 (dp0 hd (by decide)) (ls0 := [.ref 77, .int (1 : Int32)]) rfl (Nat.le_of_ble_eq_true rfl) (Nat.le_of_ble_eq_true rfl) rfl (to_rc rfl rfl rfl (g_o hG rfl)) rfl (to_an (pc := 0) rw_152_0 rfl (to_in (pc := 1) rw_152_1 rfl (s_pI (pc := 2) rw_152_2 hG rfl (fun M16 W15 => ?_)))))))))
        have hG17 := g_wf hG W15 rfl rfl (by decide)
        have F18 := FR.w F0 W15 (show 77 = 77 ∧ (4 = 4 ∨ 4 = 5 ∨ 7 ≤ 4 ∧ 4 ≤ 10) ∨ 77 = 77 ∧ (4 = 59 ∨ 65 ≤ 4 ∧ 4 ≤ 69) ∨ 112 ≤ 77 ∧ 77 ≤ 114 ∧ 40 ≤ 4 ∨ 77 = 115 ∨ 77 = 116 by decide)
        refine to_an (pc := 5) rw_152_5 rfl (to_an (pc := 6) rw_152_6 rfl ?_)
        have c_19 : M16.2.1 77 10 = (M.2.1 77 10) := (W_n W15 (by decide) rfl)
        have b_20 := g_b hG (a := 77) (i := 10) (lo := 0) (hi := 500) rfl rfl
        refine tt_gI (pc := 7) rw_152_7 (g_o hG17 rfl) (v := (M.2.1 77 10)) c_19 (s_pI (pc := 10) rw_152_10 hG17 rfl (fun M22 W21 => ?_))
        have hG23 := g_wf hG17 W21 rfl rfl (by decide)
        have F24 := FR.w F18 W21 (show 77 = 77 ∧ (5 = 4 ∨ 5 = 5 ∨ 7 ≤ 5 ∧ 5 ≤ 10) ∨ 77 = 77 ∧ (5 = 59 ∨ 65 ≤ 5 ∧ 5 ≤ 69) ∨ 112 ≤ 77 ∧ 77 ≤ 114 ∧ 40 ≤ 5 ∨ 77 = 115 ∨ 77 = 116 by decide)
        refine to_c (pc := 13) rw_152_13 (x := (0 : Int32)) rfl rfl (s_r1 (pc := 14) rw_152_14 (A := 0) rfl (by decide) (s_r1 (pc := 103) rw_226_103 (A := 0) rfl (by decide) ?_))
        have k_25 : (0 : Int32).toInt = 0 := rfl
        have c_26 : M22.2.1 77 7 = (M.2.1 77 7) := (W_n W21 (by decide) (W_n W15 (by decide) rfl))
        have t_27 : (M22.2.1 77 7).toInt = (M.2.1 77 7).toInt := congrArg Int32.toInt c_26
        have c_28 : M22.2.1 77 6 = (M.2.1 77 6) := (W_n W21 (by decide) (W_n W15 (by decide) rfl))
        have t_29 : (M22.2.1 77 6).toInt = (M.2.1 77 6).toInt := congrArg Int32.toInt c_28
        have c_30 : M22.2.1 77 8 = (M.2.1 77 8) := (W_n W21 (by decide) (W_n W15 (by decide) rfl))
        have t_31 : (M22.2.1 77 8).toInt = (M.2.1 77 8).toInt := congrArg Int32.toInt c_30
        have c_32 : M22.2.1 77 4 = (1 : Int32) := (W_n W21 (by decide) (W_e W15))
        have k_33 : (1 : Int32).toInt = 1 := rfl
        have t_34 : (M22.2.1 77 4).toInt = (1 : Int32).toInt := congrArg Int32.toInt c_32
        have c_35 : M22.2.1 77 5 = (M.2.1 77 10) := (W_e W21)
        have t_36 : (M22.2.1 77 5).toInt = (M.2.1 77 10).toInt := congrArg Int32.toInt c_35
        exact h (0 : Int32) M22 hG23 F24 (by decide) (by decide) (by omega) (by omega) (by omega) (by omega) (fun z => absurd z (by omega)) (by omega)
      · refine to_an (pc := 8) rw_159_8 rfl (tt_gI (pc := 9) rw_159_9 (g_o hG rfl) (v := (M.2.1 77 9)) rfl (to_in (pc := 12) rw_159_12 rfl (b_cne (pc := 13) rw_159_13 (A := (M.2.1 77 9).toInt) (B := 41) rfl rfl (fun h37 => ?_) (fun h37 => ?_))))
        · refine to_c (pc := 20) rw_159_20 (x := (0 : Int32)) rfl rfl (s_r1 (pc := 21) rw_159_21 (A := 0) rfl (by decide) (b_ieq_t (pc := 88) rw_226_88 (A := 0) rfl (by decide) (to_an (pc := 98) rw_226_98 rfl (to_c (pc := 99) rw_226_99 (x := (1 : Int32)) rfl rfl (s_v (pc := 100) rw_226_100 (dp0 hd (by decide)) (ls0 := [.ref 77, .int (1 : Int32)]) rfl (Nat.le_of_ble_eq_true rfl) (Nat.le_of_ble_eq_true rfl) rfl (to_rc rfl rfl rfl (g_o hG rfl)) rfl (to_an (pc := 0) rw_152_0 rfl (to_in (pc := 1) rw_152_1 rfl (s_pI (pc := 2) rw_152_2 hG rfl (fun M39 W38 => ?_)))))))))
          have hG40 := g_wf hG W38 rfl rfl (by decide)
          have F41 := FR.w F0 W38 (show 77 = 77 ∧ (4 = 4 ∨ 4 = 5 ∨ 7 ≤ 4 ∧ 4 ≤ 10) ∨ 77 = 77 ∧ (4 = 59 ∨ 65 ≤ 4 ∧ 4 ≤ 69) ∨ 112 ≤ 77 ∧ 77 ≤ 114 ∧ 40 ≤ 4 ∨ 77 = 115 ∨ 77 = 116 by decide)
          refine to_an (pc := 5) rw_152_5 rfl (to_an (pc := 6) rw_152_6 rfl ?_)
          have c_42 : M39.2.1 77 10 = (M.2.1 77 10) := (W_n W38 (by decide) rfl)
          have b_43 := g_b hG (a := 77) (i := 10) (lo := 0) (hi := 500) rfl rfl
          refine tt_gI (pc := 7) rw_152_7 (g_o hG40 rfl) (v := (M.2.1 77 10)) c_42 (s_pI (pc := 10) rw_152_10 hG40 rfl (fun M45 W44 => ?_))
          have hG46 := g_wf hG40 W44 rfl rfl (by decide)
          have F47 := FR.w F41 W44 (show 77 = 77 ∧ (5 = 4 ∨ 5 = 5 ∨ 7 ≤ 5 ∧ 5 ≤ 10) ∨ 77 = 77 ∧ (5 = 59 ∨ 65 ≤ 5 ∧ 5 ≤ 69) ∨ 112 ≤ 77 ∧ 77 ≤ 114 ∧ 40 ≤ 5 ∨ 77 = 115 ∨ 77 = 116 by decide)
          refine to_c (pc := 13) rw_152_13 (x := (0 : Int32)) rfl rfl (s_r1 (pc := 14) rw_152_14 (A := 0) rfl (by decide) (s_r1 (pc := 103) rw_226_103 (A := 0) rfl (by decide) ?_))
          have k_48 : (0 : Int32).toInt = 0 := rfl
          have c_49 : M45.2.1 77 7 = (M.2.1 77 7) := (W_n W44 (by decide) (W_n W38 (by decide) rfl))
          have t_50 : (M45.2.1 77 7).toInt = (M.2.1 77 7).toInt := congrArg Int32.toInt c_49
          have c_51 : M45.2.1 77 6 = (M.2.1 77 6) := (W_n W44 (by decide) (W_n W38 (by decide) rfl))
          have t_52 : (M45.2.1 77 6).toInt = (M.2.1 77 6).toInt := congrArg Int32.toInt c_51
          have c_53 : M45.2.1 77 8 = (M.2.1 77 8) := (W_n W44 (by decide) (W_n W38 (by decide) rfl))
          have t_54 : (M45.2.1 77 8).toInt = (M.2.1 77 8).toInt := congrArg Int32.toInt c_53
          have c_55 : M45.2.1 77 4 = (1 : Int32) := (W_n W44 (by decide) (W_e W38))
          have k_56 : (1 : Int32).toInt = 1 := rfl
          have t_57 : (M45.2.1 77 4).toInt = (1 : Int32).toInt := congrArg Int32.toInt c_55
          have c_58 : M45.2.1 77 5 = (M.2.1 77 10) := (W_e W44)
          have t_59 : (M45.2.1 77 5).toInt = (M.2.1 77 10).toInt := congrArg Int32.toInt c_58
          exact h (0 : Int32) M45 hG46 F47 (by decide) (by decide) (by omega) (by omega) (by omega) (by omega) (fun z => absurd z (by omega)) (by omega)
        · refine to_c (pc := 16) rw_159_16 (x := (1 : Int32)) rfl rfl (to_go (pc := 17) rw_159_17 (s_r1 (pc := 21) rw_159_21 (A := 1) rfl (by decide) (b_ieq_f (pc := 88) rw_226_88 (A := 1) rfl (by decide) (to_an (pc := 91) rw_226_91 rfl (tt_gI (pc := 92) rw_226_92 (g_o hG rfl) (v := (M.2.1 77 67)) rfl (b_ine (pc := 95) rw_226_95 (A := (M.2.1 77 67).toInt) rfl (fun h60 => ?_) (fun h60 => ?_)))))))
          · refine to_an (pc := 104) rw_226_104 rfl (to_c (pc := 105) rw_226_105 (x := (1 : Int32)) rfl rfl (s_v (pc := 106) rw_226_106 (dp0 hd (by decide)) (ls0 := [.ref 77, .int (1 : Int32), .null, .null, .null]) rfl (Nat.le_of_ble_eq_true rfl) (Nat.le_of_ble_eq_true rfl) rfl (to_rc rfl rfl rfl (g_o hG rfl)) rfl ?_))
            have k_61 : (1 : Int32).toInt = 1 := rfl
            refine C_223 hX (dp1 hd (by decide)) hG (by omega) (by omega) (by omega) q2 (l := (1 : Int32)) (fun M68 hG64 F63 p_65 p_66 p_67 => ?_)
            have F69 := FR.c F0 F63 tg_388
            have s_70 := p_66
            have b_71 := g_b hG64 (a := 77) (i := 59) (lo := 0) (hi := 40) rfl rfl
            have b_72 := g_b hG64 (a := 77) (i := 65) (lo := 0) (hi := 48) rfl rfl
            have b_73 := g_b hG64 (a := 77) (i := 66) (lo := 0) (hi := 40) rfl rfl
            have c_74 : M68.2.1 77 67 = (M.2.1 77 67) := (F_n F63 (show ¬ (77 = 77 ∧ (67 = 59 ∨ 67 = 65 ∨ 67 = 66) ∨ 112 ≤ 77 ∧ 77 ≤ 114 ∧ 40 ≤ 67 ∨ 77 = 116) by decide) rfl)
            have t_75 : (M68.2.1 77 67).toInt = (M.2.1 77 67).toInt := congrArg Int32.toInt c_74
            have c_76 : M68.2.1 77 68 = (M.2.1 77 68) := (F_n F63 (show ¬ (77 = 77 ∧ (68 = 59 ∨ 68 = 65 ∨ 68 = 66) ∨ 112 ≤ 77 ∧ 77 ≤ 114 ∧ 40 ≤ 68 ∨ 77 = 116) by decide) rfl)
            have t_77 : (M68.2.1 77 68).toInt = (M.2.1 77 68).toInt := congrArg Int32.toInt c_76
            have c_78 : M68.2.1 77 69 = (M.2.1 77 69) := (F_n F63 (show ¬ (77 = 77 ∧ (69 = 59 ∨ 69 = 65 ∨ 69 = 66) ∨ 112 ≤ 77 ∧ 77 ≤ 114 ∧ 40 ≤ 69 ∨ 77 = 116) by decide) rfl)
            have t_79 : (M68.2.1 77 69).toInt = (M.2.1 77 69).toInt := congrArg Int32.toInt c_78
            have s_80 := QK_e p_65
            have s_81 := Wx_b M68 ((M68.2.1 77 65).toInt).toNat
            have s_t := p_67 rfl
            have s_n := p_65.2.1 (((M68.2.1 77 65).toInt).toNat - 1)
            have s_s := Wx_s M68 (((M68.2.1 77 65).toInt).toNat - 1)
            have s_p : 1 ≤ (M68.2.1 77 65).toInt := by omega
            rw [show ((M68.2.1 77 65).toInt).toNat - 1 + 1 = ((M68.2.1 77 65).toInt).toNat by omega] at s_s
            have s_n := s_n (by omega)
            have s_z : (M68.2.1 115 (((M68.2.1 77 65).toInt).toNat - 1)).toInt = 0 := by omega
            have s_s := s_s.1 s_z
            refine to_an (pc := 109) rw_226_109 rfl (to_dupr (pc := 110) rw_226_110 (tt_gI (pc := 111) rw_226_111 (g_o hG64 rfl) (v := (M68.2.1 77 65)) rfl (to_c (pc := 114) rw_226_114 (x := (1 : Int32)) rfl rfl (s_sub (pc := 115) rw_226_115 (A := (M68.2.1 77 65).toInt) (B := 1) rfl rfl (by omega) (fun v82 e83 => s_pI (pc := 116) rw_226_116 hG64 rfl (fun M85 W84 => ?_))))))
            have hG86 := g_w hG64 W84 (A := v82.toInt) rfl (lo := 0) (hi := 48) rfl rfl (by omega) (by decide)
            have F87 := FR.w F69 W84 (show 77 = 77 ∧ (65 = 4 ∨ 65 = 5 ∨ 7 ≤ 65 ∧ 65 ≤ 10) ∨ 77 = 77 ∧ (65 = 59 ∨ 65 ≤ 65 ∧ 65 ≤ 69) ∨ 112 ≤ 77 ∧ 77 ≤ 114 ∧ 40 ≤ 65 ∨ 77 = 115 ∨ 77 = 116 by decide)
            refine to_an (pc := 119) rw_226_119 rfl (to_dupr (pc := 120) rw_226_120 ?_)
            have c_88 : M85.2.1 77 67 = (M.2.1 77 67) := (W_n W84 (by decide) c_74)
            refine tt_gI (pc := 121) rw_226_121 (g_o hG86 rfl) (v := (M.2.1 77 67)) c_88 (to_c (pc := 124) rw_226_124 (x := (1 : Int32)) rfl rfl (s_sub (pc := 125) rw_226_125 (A := (M.2.1 77 67).toInt) (B := 1) rfl rfl (by omega) (fun v89 e90 => s_pI (pc := 126) rw_226_126 hG86 rfl (fun M92 W91 => ?_))))
            have hG93 := g_w hG86 W91 (A := v89.toInt) rfl (lo := 0) (hi := 8) rfl rfl (by omega) (by decide)
            have F94 := FR.w F87 W91 (show 77 = 77 ∧ (67 = 4 ∨ 67 = 5 ∨ 7 ≤ 67 ∧ 67 ≤ 10) ∨ 77 = 77 ∧ (67 = 59 ∨ 65 ≤ 67 ∧ 67 ≤ 69) ∨ 112 ≤ 77 ∧ 77 ≤ 114 ∧ 40 ≤ 67 ∨ 77 = 115 ∨ 77 = 116 by decide)
            refine to_an (pc := 129) rw_226_129 rfl (s_v (pc := 130) rw_226_130 (dp0 hd (by decide)) (ls0 := [.ref 77]) rfl (Nat.le_of_ble_eq_true rfl) (Nat.le_of_ble_eq_true rfl) rfl (to_rc rfl rfl rfl (g_o hG93 rfl)) rfl ?_)
            have c_95 : M92.2.1 77 7 = (M.2.1 77 7) := (W_n W91 (by decide) (W_n W84 (by decide) (F_n F63 (show ¬ (77 = 77 ∧ (7 = 59 ∨ 7 = 65 ∨ 7 = 66) ∨ 112 ≤ 77 ∧ 77 ≤ 114 ∧ 40 ≤ 7 ∨ 77 = 116) by decide) rfl)))
            have t_96 : (M92.2.1 77 7).toInt = (M.2.1 77 7).toInt := congrArg Int32.toInt c_95
            have c_97 : M92.2.1 77 6 = (M.2.1 77 6) := (W_n W91 (by decide) (W_n W84 (by decide) (F_n F63 (show ¬ (77 = 77 ∧ (6 = 59 ∨ 6 = 65 ∨ 6 = 66) ∨ 112 ≤ 77 ∧ 77 ≤ 114 ∧ 40 ≤ 6 ∨ 77 = 116) by decide) rfl)))
            have t_98 : (M92.2.1 77 6).toInt = (M.2.1 77 6).toInt := congrArg Int32.toInt c_97
            refine C_156 hX (dp1 hd (by decide)) hG93 (by omega)  (fun M104 hG100 F99 p_101 p_102 p_103 => ?_)
            have F105 := FR.c F94 F99 tg_389
            have b_106 := g_b hG100 (a := 77) (i := 7) (lo := 0) (hi := 500) rfl rfl
            have c_107 : M104.2.1 77 6 = (M.2.1 77 6) := (F_n F99 (show ¬ (77 = 77 ∧ 7 ≤ 6 ∧ 6 ≤ 10) by decide) c_97)
            have t_108 : (M104.2.1 77 6).toInt = (M.2.1 77 6).toInt := congrArg Int32.toInt c_107
            have b_109 := g_b hG100 (a := 77) (i := 8) (lo := 0) (hi := 5) rfl rfl
            refine to_c (pc := 133) rw_226_133 (x := (1 : Int32)) rfl rfl (s_r1 (pc := 134) rw_226_134 (A := 1) rfl (by decide) ?_)
            have c_110 : M104.2.1 77 59 = (M68.2.1 77 59) := (F_n F99 (show ¬ (77 = 77 ∧ 7 ≤ 59 ∧ 59 ≤ 10) by decide) (W_n W91 (by decide) (W_n W84 (by decide) rfl)))
            have t_111 : (M104.2.1 77 59).toInt = (M68.2.1 77 59).toInt := congrArg Int32.toInt c_110
            have c_112 : M104.2.1 77 65 = v82 := (F_n F99 (show ¬ (77 = 77 ∧ 7 ≤ 65 ∧ 65 ≤ 10) by decide) (W_n W91 (by decide) (W_e W84)))
            have t_113 : (M104.2.1 77 65).toInt = v82.toInt := congrArg Int32.toInt c_112
            have c_114 : M104.2.1 77 66 = (M68.2.1 77 66) := (F_n F99 (show ¬ (77 = 77 ∧ 7 ≤ 66 ∧ 66 ≤ 10) by decide) (W_n W91 (by decide) (W_n W84 (by decide) rfl)))
            have t_115 : (M104.2.1 77 66).toInt = (M68.2.1 77 66).toInt := congrArg Int32.toInt c_114
            have c_116 : M104.2.1 77 67 = v89 := (F_n F99 (show ¬ (77 = 77 ∧ 7 ≤ 67 ∧ 67 ≤ 10) by decide) (W_e W91))
            have t_117 : (M104.2.1 77 67).toInt = v89.toInt := congrArg Int32.toInt c_116
            have c_118 : M104.2.1 77 68 = (M.2.1 77 68) := (F_n F99 (show ¬ (77 = 77 ∧ 7 ≤ 68 ∧ 68 ≤ 10) by decide) (W_n W91 (by decide) (W_n W84 (by decide) c_76)))
            have t_119 : (M104.2.1 77 68).toInt = (M.2.1 77 68).toInt := congrArg Int32.toInt c_118
            have c_120 : M104.2.1 77 69 = (M.2.1 77 69) := (F_n F99 (show ¬ (77 = 77 ∧ 7 ≤ 69 ∧ 69 ≤ 10) by decide) (W_n W91 (by decide) (W_n W84 (by decide) c_78)))
            have t_121 : (M104.2.1 77 69).toInt = (M.2.1 77 69).toInt := congrArg Int32.toInt c_120
            have s_123 := Wx_f (M := M68) (M1 := M104) (((M68.2.1 77 65).toInt).toNat - 1) (fun i z => (F_n F99 (show ¬ (115 = 77 ∧ 7 ≤ i ∧ i ≤ 10) by omega) (W_n W91 (by omega) (W_n W84 (by omega) rfl))))
            have j_122 : QK M104 := QK_i (by unfold QK_c; rw [show ((M104.2.1 77 65).toInt).toNat = ((M68.2.1 77 65).toInt).toNat - 1 by omega]; refine ⟨by omega, by omega, by omega, by omega⟩) (fun i z => by rw [(F_n F99 (show ¬ (115 = 77 ∧ 7 ≤ i ∧ i ≤ 10) by omega) (W_n W91 (by omega) (W_n W84 (by omega) rfl)))]; exact p_65.2.1 i (by omega)) (by rw [(F_n F99 (show ¬ (77 = 77 ∧ 7 ≤ 59 ∧ 59 ≤ 10) by decide) (W_n W91 (by omega) (W_n W84 (by omega) rfl)))]; exact KN_f (fun a i z => (F_n F99 (show ¬ (a = 77 ∧ 7 ≤ i ∧ i ≤ 10) by omega) (W_n W91 (by /-r77,67-/ omega) (W_n W84 (by /-r77,65-/ omega) rfl)))) p_65.2.2)
            have c_124 : M104.2.1 77 4 = (M.2.1 77 4) := (F_n F99 (show ¬ (77 = 77 ∧ 7 ≤ 4 ∧ 4 ≤ 10) by decide) (W_n W91 (by decide) (W_n W84 (by decide) (F_n F63 (show ¬ (77 = 77 ∧ (4 = 59 ∨ 4 = 65 ∨ 4 = 66) ∨ 112 ≤ 77 ∧ 77 ≤ 114 ∧ 40 ≤ 4 ∨ 77 = 116) by decide) rfl))))
            have t_125 : (M104.2.1 77 4).toInt = (M.2.1 77 4).toInt := congrArg Int32.toInt c_124
            have c_126 : M104.2.1 77 5 = (M.2.1 77 5) := (F_n F99 (show ¬ (77 = 77 ∧ 7 ≤ 5 ∧ 5 ≤ 10) by decide) (W_n W91 (by decide) (W_n W84 (by decide) (F_n F63 (show ¬ (77 = 77 ∧ (5 = 59 ∨ 5 = 65 ∨ 5 = 66) ∨ 112 ≤ 77 ∧ 77 ≤ 114 ∧ 40 ≤ 5 ∨ 77 = 116) by decide) rfl))))
            have t_127 : (M104.2.1 77 5).toInt = (M.2.1 77 5).toInt := congrArg Int32.toInt c_126
            exact h (1 : Int32) M104 hG100 F105 (by decide) (by decide) (by omega) (by omega) (by omega) (by omega) (fun _ => j_122) (by omega)
          · refine to_an (pc := 98) rw_226_98 rfl (to_c (pc := 99) rw_226_99 (x := (1 : Int32)) rfl rfl (s_v (pc := 100) rw_226_100 (dp0 hd (by decide)) (ls0 := [.ref 77, .int (1 : Int32)]) rfl (Nat.le_of_ble_eq_true rfl) (Nat.le_of_ble_eq_true rfl) rfl (to_rc rfl rfl rfl (g_o hG rfl)) rfl (to_an (pc := 0) rw_152_0 rfl (to_in (pc := 1) rw_152_1 rfl (s_pI (pc := 2) rw_152_2 hG rfl (fun M129 W128 => ?_))))))
            have hG130 := g_wf hG W128 rfl rfl (by decide)
            have F131 := FR.w F0 W128 (show 77 = 77 ∧ (4 = 4 ∨ 4 = 5 ∨ 7 ≤ 4 ∧ 4 ≤ 10) ∨ 77 = 77 ∧ (4 = 59 ∨ 65 ≤ 4 ∧ 4 ≤ 69) ∨ 112 ≤ 77 ∧ 77 ≤ 114 ∧ 40 ≤ 4 ∨ 77 = 115 ∨ 77 = 116 by decide)
            refine to_an (pc := 5) rw_152_5 rfl (to_an (pc := 6) rw_152_6 rfl ?_)
            have c_132 : M129.2.1 77 10 = (M.2.1 77 10) := (W_n W128 (by decide) rfl)
            have b_133 := g_b hG (a := 77) (i := 10) (lo := 0) (hi := 500) rfl rfl
            refine tt_gI (pc := 7) rw_152_7 (g_o hG130 rfl) (v := (M.2.1 77 10)) c_132 (s_pI (pc := 10) rw_152_10 hG130 rfl (fun M135 W134 => ?_))
            have hG136 := g_wf hG130 W134 rfl rfl (by decide)
            have F137 := FR.w F131 W134 (show 77 = 77 ∧ (5 = 4 ∨ 5 = 5 ∨ 7 ≤ 5 ∧ 5 ≤ 10) ∨ 77 = 77 ∧ (5 = 59 ∨ 65 ≤ 5 ∧ 5 ≤ 69) ∨ 112 ≤ 77 ∧ 77 ≤ 114 ∧ 40 ≤ 5 ∨ 77 = 115 ∨ 77 = 116 by decide)
            refine to_c (pc := 13) rw_152_13 (x := (0 : Int32)) rfl rfl (s_r1 (pc := 14) rw_152_14 (A := 0) rfl (by decide) (s_r1 (pc := 103) rw_226_103 (A := 0) rfl (by decide) ?_))
            have k_138 : (0 : Int32).toInt = 0 := rfl
            have c_139 : M135.2.1 77 7 = (M.2.1 77 7) := (W_n W134 (by decide) (W_n W128 (by decide) rfl))
            have t_140 : (M135.2.1 77 7).toInt = (M.2.1 77 7).toInt := congrArg Int32.toInt c_139
            have c_141 : M135.2.1 77 6 = (M.2.1 77 6) := (W_n W134 (by decide) (W_n W128 (by decide) rfl))
            have t_142 : (M135.2.1 77 6).toInt = (M.2.1 77 6).toInt := congrArg Int32.toInt c_141
            have c_143 : M135.2.1 77 8 = (M.2.1 77 8) := (W_n W134 (by decide) (W_n W128 (by decide) rfl))
            have t_144 : (M135.2.1 77 8).toInt = (M.2.1 77 8).toInt := congrArg Int32.toInt c_143
            have c_145 : M135.2.1 77 4 = (1 : Int32) := (W_n W134 (by decide) (W_e W128))
            have k_146 : (1 : Int32).toInt = 1 := rfl
            have t_147 : (M135.2.1 77 4).toInt = (1 : Int32).toInt := congrArg Int32.toInt c_145
            have c_148 : M135.2.1 77 5 = (M.2.1 77 10) := (W_e W134)
            have t_149 : (M135.2.1 77 5).toInt = (M.2.1 77 10).toInt := congrArg Int32.toInt c_148
            exact h (0 : Int32) M135 hG136 F137 (by decide) (by decide) (by omega) (by omega) (by omega) (by omega) (fun z => absurd z (by omega)) (by omega)
    · refine to_an (pc := 8) rw_158_8 rfl (tt_gI (pc := 9) rw_158_9 (g_o hG rfl) (v := (M.2.1 77 9)) rfl (to_in (pc := 12) rw_158_12 rfl (b_cne (pc := 13) rw_158_13 (A := (M.2.1 77 9).toInt) (B := 13) rfl rfl (fun h150 => ?_) (fun h150 => ?_))))
      · refine to_c (pc := 20) rw_158_20 (x := (0 : Int32)) rfl rfl (s_r1 (pc := 21) rw_158_21 (A := 0) rfl (by decide) (b_ieq_t (pc := 15) rw_226_15 (A := 0) rfl (by decide) (to_an (pc := 82) rw_226_82 rfl (to_c (pc := 83) rw_226_83 (x := (41 : Int32)) rfl rfl (s_v (pc := 85) rw_226_85 (dp0 hd (by decide)) (ls0 := [.ref 77, .int (41 : Int32)]) rfl (Nat.le_of_ble_eq_true rfl) (Nat.le_of_ble_eq_true rfl) rfl (to_rc rfl rfl rfl (g_o hG rfl)) rfl (to_an (pc := 0) rw_159_0 rfl (tt_gI (pc := 1) rw_159_1 (g_o hG rfl) (v := (M.2.1 77 8)) rfl (to_c (pc := 4) rw_159_4 (x := (4 : Int32)) rfl rfl (b_cne_t (pc := 5) rw_159_5 (A := (M.2.1 77 8).toInt) (B := 4) rfl rfl (by omega) (to_c (pc := 20) rw_159_20 (x := (0 : Int32)) rfl rfl (s_r1 (pc := 21) rw_159_21 (A := 0) rfl (by decide) ?_)))))))))))
        refine b_ieq_t (pc := 88) rw_226_88 (A := 0) rfl (by decide) (to_an (pc := 98) rw_226_98 rfl (to_c (pc := 99) rw_226_99 (x := (1 : Int32)) rfl rfl (s_v (pc := 100) rw_226_100 (dp0 hd (by decide)) (ls0 := [.ref 77, .int (1 : Int32)]) rfl (Nat.le_of_ble_eq_true rfl) (Nat.le_of_ble_eq_true rfl) rfl (to_rc rfl rfl rfl (g_o hG rfl)) rfl (to_an (pc := 0) rw_152_0 rfl (to_in (pc := 1) rw_152_1 rfl (s_pI (pc := 2) rw_152_2 hG rfl (fun M152 W151 => ?_)))))))
        have hG153 := g_wf hG W151 rfl rfl (by decide)
        have F154 := FR.w F0 W151 (show 77 = 77 ∧ (4 = 4 ∨ 4 = 5 ∨ 7 ≤ 4 ∧ 4 ≤ 10) ∨ 77 = 77 ∧ (4 = 59 ∨ 65 ≤ 4 ∧ 4 ≤ 69) ∨ 112 ≤ 77 ∧ 77 ≤ 114 ∧ 40 ≤ 4 ∨ 77 = 115 ∨ 77 = 116 by decide)
        refine to_an (pc := 5) rw_152_5 rfl (to_an (pc := 6) rw_152_6 rfl ?_)
        have c_155 : M152.2.1 77 10 = (M.2.1 77 10) := (W_n W151 (by decide) rfl)
        have b_156 := g_b hG (a := 77) (i := 10) (lo := 0) (hi := 500) rfl rfl
        refine tt_gI (pc := 7) rw_152_7 (g_o hG153 rfl) (v := (M.2.1 77 10)) c_155 (s_pI (pc := 10) rw_152_10 hG153 rfl (fun M158 W157 => ?_))
        have hG159 := g_wf hG153 W157 rfl rfl (by decide)
        have F160 := FR.w F154 W157 (show 77 = 77 ∧ (5 = 4 ∨ 5 = 5 ∨ 7 ≤ 5 ∧ 5 ≤ 10) ∨ 77 = 77 ∧ (5 = 59 ∨ 65 ≤ 5 ∧ 5 ≤ 69) ∨ 112 ≤ 77 ∧ 77 ≤ 114 ∧ 40 ≤ 5 ∨ 77 = 115 ∨ 77 = 116 by decide)
        refine to_c (pc := 13) rw_152_13 (x := (0 : Int32)) rfl rfl (s_r1 (pc := 14) rw_152_14 (A := 0) rfl (by decide) (s_r1 (pc := 103) rw_226_103 (A := 0) rfl (by decide) ?_))
        have k_161 : (0 : Int32).toInt = 0 := rfl
        have c_162 : M158.2.1 77 7 = (M.2.1 77 7) := (W_n W157 (by decide) (W_n W151 (by decide) rfl))
        have t_163 : (M158.2.1 77 7).toInt = (M.2.1 77 7).toInt := congrArg Int32.toInt c_162
        have c_164 : M158.2.1 77 6 = (M.2.1 77 6) := (W_n W157 (by decide) (W_n W151 (by decide) rfl))
        have t_165 : (M158.2.1 77 6).toInt = (M.2.1 77 6).toInt := congrArg Int32.toInt c_164
        have c_166 : M158.2.1 77 8 = (M.2.1 77 8) := (W_n W157 (by decide) (W_n W151 (by decide) rfl))
        have t_167 : (M158.2.1 77 8).toInt = (M.2.1 77 8).toInt := congrArg Int32.toInt c_166
        have c_168 : M158.2.1 77 4 = (1 : Int32) := (W_n W157 (by decide) (W_e W151))
        have k_169 : (1 : Int32).toInt = 1 := rfl
        have t_170 : (M158.2.1 77 4).toInt = (1 : Int32).toInt := congrArg Int32.toInt c_168
        have c_171 : M158.2.1 77 5 = (M.2.1 77 10) := (W_e W157)
        have t_172 : (M158.2.1 77 5).toInt = (M.2.1 77 10).toInt := congrArg Int32.toInt c_171
        exact h (0 : Int32) M158 hG159 F160 (by decide) (by decide) (by omega) (by omega) (by omega) (by omega) (fun z => absurd z (by omega)) (by omega)
      · refine to_c (pc := 16) rw_158_16 (x := (1 : Int32)) rfl rfl (to_go (pc := 17) rw_158_17 (s_r1 (pc := 21) rw_158_21 (A := 1) rfl (by decide) (b_ieq_f (pc := 15) rw_226_15 (A := 1) rfl (by decide) (to_an (pc := 18) rw_226_18 rfl (tt_gI (pc := 19) rw_226_19 (g_o hG rfl) (v := (M.2.1 77 9)) rfl (to_c (pc := 22) rw_226_22 (x := (12 : Int32)) rfl rfl (b_cne_t (pc := 24) rw_226_24 (A := (M.2.1 77 9).toInt) (B := 12) rfl rfl (by omega) (to_c (pc := 31) rw_226_31 (x := (4 : Int32)) rfl rfl (to_isn (pc := 32) rw_226_32 (ls2 := [.ref 77, .int (4 : Int32)]) rfl rfl (to_an (pc := 33) rw_226_33 rfl (s_v (pc := 34) rw_226_34 (dp0 hd (by decide)) (ls0 := [.ref 77]) rfl (Nat.le_of_ble_eq_true rfl) (Nat.le_of_ble_eq_true rfl) rfl (to_rc rfl rfl rfl (g_o hG rfl)) rfl ?_)))))))))))
        refine to_an (pc := 0) rw_224_0 rfl (tt_gI (pc := 1) rw_224_1 (g_o hG rfl) (v := (M.2.1 77 69)) rfl (to_c (pc := 4) rw_224_4 (x := (40 : Int32)) rfl rfl (b_cne (pc := 6) rw_224_6 (A := (M.2.1 77 69).toInt) (B := 40) rfl rfl (fun h173 => ?_) (fun h173 => ?_))))
        · refine to_an (pc := 15) rw_224_15 rfl (to_dupr (pc := 16) rw_224_16 (tt_gI (pc := 17) rw_224_17 (g_o hG rfl) (v := (M.2.1 77 69)) rfl (to_c (pc := 20) rw_224_20 (x := (1 : Int32)) rfl rfl (s_add (pc := 21) rw_224_21 (A := (M.2.1 77 69).toInt) (B := 1) rfl rfl (by omega) (fun v174 e175 => s_pI (pc := 22) rw_224_22 hG rfl (fun M177 W176 => ?_))))))
          have hG178 := g_w hG W176 (A := v174.toInt) rfl (lo := 0) (hi := 40) rfl rfl (by omega) (by decide)
          have F179 := FR.w F0 W176 (show 77 = 77 ∧ (69 = 4 ∨ 69 = 5 ∨ 7 ≤ 69 ∧ 69 ≤ 10) ∨ 77 = 77 ∧ (69 = 59 ∨ 65 ≤ 69 ∧ 69 ≤ 69) ∨ 112 ≤ 77 ∧ 77 ≤ 114 ∧ 40 ≤ 69 ∨ 77 = 115 ∨ 77 = 116 by decide)
          refine to_c (pc := 25) rw_224_25 (x := (1 : Int32)) rfl rfl (s_r1 (pc := 26) rw_224_26 (A := 1) rfl (by decide) (b_ine_t (pc := 37) rw_226_37 (A := 1) rfl (by decide) (to_an (pc := 42) rw_226_42 rfl (to_an (pc := 43) rw_226_43 rfl (to_in (pc := 44) rw_226_44 rfl (s_v (pc := 45) rw_226_45 (dp0 hd (by decide)) (ls0 := [.ref 77, .int (4 : Int32)]) rfl (Nat.le_of_ble_eq_true rfl) (Nat.le_of_ble_eq_true rfl) rfl (to_rc rfl rfl rfl (g_o hG178 rfl)) rfl (to_in (pc := 0) rw_220_0 rfl (to_c (pc := 1) rw_220_1 (x := (2 : Int32)) rfl rfl (b_cne_t (pc := 2) rw_220_2 (A := 4) (B := 2) rfl rfl (by decide) (to_in (pc := 9) rw_220_9 rfl (to_c (pc := 10) rw_220_10 (x := (3 : Int32)) rfl rfl ?_)))))))))))
          refine b_cne_t (pc := 11) rw_220_11 (A := 4) (B := 3) rfl rfl (by decide) (to_in (pc := 18) rw_220_18 rfl (to_c (pc := 19) rw_220_19 (x := (4 : Int32)) rfl rfl (b_cne_f (pc := 20) rw_220_20 (A := 4) (B := 4) rfl rfl (by decide) (to_c (pc := 23) rw_220_23 (x := (1 : Int32)) rfl rfl (to_go (pc := 24) rw_220_24 (to_r0 (pc := 28) rw_220_28 (s_v (pc := 48) rw_226_48 (dp0 hd (by decide)) (ls0 := [.ref 77, .int (1 : Int32), .null, .null, .null]) rfl (Nat.le_of_ble_eq_true rfl) (Nat.le_of_ble_eq_true rfl) rfl (to_rc rfl rfl rfl (g_o hG178 rfl)) rfl ?_)))))))
          have k_180 : (1 : Int32).toInt = 1 := rfl
          have c_181 : M177.2.1 77 59 = (M.2.1 77 59) := (W_n W176 (by decide) rfl)
          have t_182 : (M177.2.1 77 59).toInt = (M.2.1 77 59).toInt := congrArg Int32.toInt c_181
          have c_183 : M177.2.1 77 65 = (M.2.1 77 65) := (W_n W176 (by decide) rfl)
          have t_184 : (M177.2.1 77 65).toInt = (M.2.1 77 65).toInt := congrArg Int32.toInt c_183
          have c_185 : M177.2.1 77 66 = (M.2.1 77 66) := (W_n W176 (by decide) rfl)
          have t_186 : (M177.2.1 77 66).toInt = (M.2.1 77 66).toInt := congrArg Int32.toInt c_185
          have c_187 : M177.2.1 77 67 = (M.2.1 77 67) := (W_n W176 (by decide) rfl)
          have t_188 : (M177.2.1 77 67).toInt = (M.2.1 77 67).toInt := congrArg Int32.toInt c_187
          have c_189 : M177.2.1 77 68 = (M.2.1 77 68) := (W_n W176 (by decide) rfl)
          have t_190 : (M177.2.1 77 68).toInt = (M.2.1 77 68).toInt := congrArg Int32.toInt c_189
          have c_191 : M177.2.1 77 69 = v174 := (W_e W176)
          have t_192 : (M177.2.1 77 69).toInt = v174.toInt := congrArg Int32.toInt c_191
          have s_194 := Wx_f (M := M) (M1 := M177) ((M.2.1 77 65).toInt).toNat (fun i z => (W_n W176 (by omega) rfl))
          have j_193 : QK M177 := QK_i (by unfold QK_c; rw [show ((M177.2.1 77 65).toInt).toNat = ((M.2.1 77 65).toInt).toNat by omega]; refine ⟨by omega, by omega, by omega, by omega⟩) (fun i z => by rw [(W_n W176 (by omega) rfl)]; exact q2.2.1 i (by omega)) (by rw [(W_n W176 (by omega) rfl)]; exact KN_f (fun a i z => (W_n W176 (by /-r77,69-/ omega) rfl)) q2.2.2)
          refine C_223 hX (dp1 hd (by decide)) hG178 (by omega) (by omega) (by omega) j_193 (l := (1 : Int32)) (fun M200 hG196 F195 p_197 p_198 p_199 => ?_)
          have F201 := FR.c F179 F195 tg_388
          have s_202 := p_198
          have s_203 : Wo M177 ((M177.2.1 77 65).toInt).toNat = Wo M ((M.2.1 77 65).toInt).toNat := by rw [show (M177.2.1 77 65) = (M.2.1 77 65) from (W_n W176 (by omega) rfl)]; exact (Wx_f (M := M) (M1 := M177) _ (fun i z => (W_n W176 (by omega) rfl))).1
          have b_204 := g_b hG196 (a := 77) (i := 59) (lo := 0) (hi := 40) rfl rfl
          have b_205 := g_b hG196 (a := 77) (i := 65) (lo := 0) (hi := 48) rfl rfl
          have b_206 := g_b hG196 (a := 77) (i := 66) (lo := 0) (hi := 40) rfl rfl
          have c_207 : M200.2.1 77 67 = (M.2.1 77 67) := (F_n F195 (show ¬ (77 = 77 ∧ (67 = 59 ∨ 67 = 65 ∨ 67 = 66) ∨ 112 ≤ 77 ∧ 77 ≤ 114 ∧ 40 ≤ 67 ∨ 77 = 116) by decide) c_187)
          have t_208 : (M200.2.1 77 67).toInt = (M.2.1 77 67).toInt := congrArg Int32.toInt c_207
          have c_209 : M200.2.1 77 68 = (M.2.1 77 68) := (F_n F195 (show ¬ (77 = 77 ∧ (68 = 59 ∨ 68 = 65 ∨ 68 = 66) ∨ 112 ≤ 77 ∧ 77 ≤ 114 ∧ 40 ≤ 68 ∨ 77 = 116) by decide) c_189)
          have t_210 : (M200.2.1 77 68).toInt = (M.2.1 77 68).toInt := congrArg Int32.toInt c_209
          have c_211 : M200.2.1 77 69 = v174 := (F_n F195 (show ¬ (77 = 77 ∧ (69 = 59 ∨ 69 = 65 ∨ 69 = 66) ∨ 112 ≤ 77 ∧ 77 ≤ 114 ∧ 40 ≤ 69 ∨ 77 = 116) by decide) c_191)
          have t_212 : (M200.2.1 77 69).toInt = v174.toInt := congrArg Int32.toInt c_211
          have s_213 := QK_e p_197
          have s_214 := Wx_b M200 ((M200.2.1 77 65).toInt).toNat
          refine to_an (pc := 51) rw_226_51 rfl (s_gR (pc := 52) rw_226_52 hG196 rfl (v := 115) rfl (to_an (pc := 55) rw_226_55 rfl (tt_gI (pc := 56) rw_226_56 (g_o hG196 rfl) (v := (M200.2.1 77 65)) rfl (to_in (pc := 59) rw_226_59 rfl (s_ias (pc := 60) rw_226_60 hG196 rfl (n := 64) rfl (A := (M200.2.1 77 65).toInt) rfl (by omega) (by omega) (fun M216 W215 => ?_))))))
          have hG217 := g_w hG196 W215 (A := 4) rfl (lo := 0) (hi := 4) rfl rfl (by omega) (by decide)
          have F218 := FR.w F201 W215 (show 115 = 77 ∧ (((M200.2.1 77 65).toInt).toNat = 4 ∨ ((M200.2.1 77 65).toInt).toNat = 5 ∨ 7 ≤ ((M200.2.1 77 65).toInt).toNat ∧ ((M200.2.1 77 65).toInt).toNat ≤ 10) ∨ 115 = 77 ∧ (((M200.2.1 77 65).toInt).toNat = 59 ∨ 65 ≤ ((M200.2.1 77 65).toInt).toNat ∧ ((M200.2.1 77 65).toInt).toNat ≤ 69) ∨ 112 ≤ 115 ∧ 115 ≤ 114 ∧ 40 ≤ ((M200.2.1 77 65).toInt).toNat ∨ 115 = 115 ∨ 115 = 116 by omega)
          refine to_an (pc := 61) rw_226_61 rfl (to_dupr (pc := 62) rw_226_62 ?_)
          have c_219 : M216.2.1 77 65 = (M200.2.1 77 65) := (W_n W215 (fun z => absurd z.1 (by decide)) rfl)
          refine tt_gI (pc := 63) rw_226_63 (g_o hG217 rfl) (v := (M200.2.1 77 65)) c_219 (to_c (pc := 66) rw_226_66 (x := (1 : Int32)) rfl rfl (s_add (pc := 67) rw_226_67 (A := (M200.2.1 77 65).toInt) (B := 1) rfl rfl (by omega) (fun v220 e221 => s_pI (pc := 68) rw_226_68 hG217 rfl (fun M223 W222 => ?_))))
          have hG224 := g_w hG217 W222 (A := v220.toInt) rfl (lo := 0) (hi := 48) rfl rfl (by omega) (by decide)
          have F225 := FR.w F218 W222 (show 77 = 77 ∧ (65 = 4 ∨ 65 = 5 ∨ 7 ≤ 65 ∧ 65 ≤ 10) ∨ 77 = 77 ∧ (65 = 59 ∨ 65 ≤ 65 ∧ 65 ≤ 69) ∨ 112 ≤ 77 ∧ 77 ≤ 114 ∧ 40 ≤ 65 ∨ 77 = 115 ∨ 77 = 116 by decide)
          refine to_an (pc := 71) rw_226_71 rfl (to_c (pc := 72) rw_226_72 (x := (0 : Int32)) rfl rfl (s_pI (pc := 73) rw_226_73 hG224 rfl (fun M227 W226 => ?_)))
          have hG228 := g_w hG224 W226 (A := 0) rfl (lo := 0) (hi := 1) rfl rfl (by omega) (by decide)
          have F229 := FR.w F225 W226 (show 77 = 77 ∧ (68 = 4 ∨ 68 = 5 ∨ 7 ≤ 68 ∧ 68 ≤ 10) ∨ 77 = 77 ∧ (68 = 59 ∨ 65 ≤ 68 ∧ 68 ≤ 69) ∨ 112 ≤ 77 ∧ 77 ≤ 114 ∧ 40 ≤ 68 ∨ 77 = 115 ∨ 77 = 116 by decide)
          refine to_an (pc := 76) rw_226_76 rfl (s_v (pc := 77) rw_226_77 (dp0 hd (by decide)) (ls0 := [.ref 77]) rfl (Nat.le_of_ble_eq_true rfl) (Nat.le_of_ble_eq_true rfl) rfl (to_rc rfl rfl rfl (g_o hG228 rfl)) rfl ?_)
          have c_230 : M227.2.1 77 7 = (M.2.1 77 7) := (W_n W226 (by decide) (W_n W222 (by decide) (W_n W215 (fun z => absurd z.1 (by decide)) (F_n F195 (show ¬ (77 = 77 ∧ (7 = 59 ∨ 7 = 65 ∨ 7 = 66) ∨ 112 ≤ 77 ∧ 77 ≤ 114 ∧ 40 ≤ 7 ∨ 77 = 116) by decide) (W_n W176 (by decide) rfl)))))
          have t_231 : (M227.2.1 77 7).toInt = (M.2.1 77 7).toInt := congrArg Int32.toInt c_230
          have c_232 : M227.2.1 77 6 = (M.2.1 77 6) := (W_n W226 (by decide) (W_n W222 (by decide) (W_n W215 (fun z => absurd z.1 (by decide)) (F_n F195 (show ¬ (77 = 77 ∧ (6 = 59 ∨ 6 = 65 ∨ 6 = 66) ∨ 112 ≤ 77 ∧ 77 ≤ 114 ∧ 40 ≤ 6 ∨ 77 = 116) by decide) (W_n W176 (by decide) rfl)))))
          have t_233 : (M227.2.1 77 6).toInt = (M.2.1 77 6).toInt := congrArg Int32.toInt c_232
          refine C_156 hX (dp1 hd (by decide)) hG228 (by omega)  (fun M239 hG235 F234 p_236 p_237 p_238 => ?_)
          have F240 := FR.c F229 F234 tg_389
          have b_241 := g_b hG235 (a := 77) (i := 7) (lo := 0) (hi := 500) rfl rfl
          have c_242 : M239.2.1 77 6 = (M.2.1 77 6) := (F_n F234 (show ¬ (77 = 77 ∧ 7 ≤ 6 ∧ 6 ≤ 10) by decide) c_232)
          have t_243 : (M239.2.1 77 6).toInt = (M.2.1 77 6).toInt := congrArg Int32.toInt c_242
          have b_244 := g_b hG235 (a := 77) (i := 8) (lo := 0) (hi := 5) rfl rfl
          refine to_c (pc := 80) rw_226_80 (x := (1 : Int32)) rfl rfl (s_r1 (pc := 81) rw_226_81 (A := 1) rfl (by decide) ?_)
          have c_245 : M239.2.1 77 59 = (M200.2.1 77 59) := (F_n F234 (show ¬ (77 = 77 ∧ 7 ≤ 59 ∧ 59 ≤ 10) by decide) (W_n W226 (by decide) (W_n W222 (by decide) (W_n W215 (fun z => absurd z.1 (by decide)) rfl))))
          have t_246 : (M239.2.1 77 59).toInt = (M200.2.1 77 59).toInt := congrArg Int32.toInt c_245
          have c_247 : M239.2.1 77 65 = v220 := (F_n F234 (show ¬ (77 = 77 ∧ 7 ≤ 65 ∧ 65 ≤ 10) by decide) (W_n W226 (by decide) (W_e W222)))
          have t_248 : (M239.2.1 77 65).toInt = v220.toInt := congrArg Int32.toInt c_247
          have c_249 : M239.2.1 77 66 = (M200.2.1 77 66) := (F_n F234 (show ¬ (77 = 77 ∧ 7 ≤ 66 ∧ 66 ≤ 10) by decide) (W_n W226 (by decide) (W_n W222 (by decide) (W_n W215 (fun z => absurd z.1 (by decide)) rfl))))
          have t_250 : (M239.2.1 77 66).toInt = (M200.2.1 77 66).toInt := congrArg Int32.toInt c_249
          have c_251 : M239.2.1 77 67 = (M.2.1 77 67) := (F_n F234 (show ¬ (77 = 77 ∧ 7 ≤ 67 ∧ 67 ≤ 10) by decide) (W_n W226 (by decide) (W_n W222 (by decide) (W_n W215 (fun z => absurd z.1 (by decide)) c_207))))
          have t_252 : (M239.2.1 77 67).toInt = (M.2.1 77 67).toInt := congrArg Int32.toInt c_251
          have c_253 : M239.2.1 77 68 = (0 : Int32) := (F_n F234 (show ¬ (77 = 77 ∧ 7 ≤ 68 ∧ 68 ≤ 10) by decide) (W_e W226))
          have k_254 : (0 : Int32).toInt = 0 := rfl
          have t_255 : (M239.2.1 77 68).toInt = (0 : Int32).toInt := congrArg Int32.toInt c_253
          have c_256 : M239.2.1 77 69 = v174 := (F_n F234 (show ¬ (77 = 77 ∧ 7 ≤ 69 ∧ 69 ≤ 10) by decide) (W_n W226 (by decide) (W_n W222 (by decide) (W_n W215 (fun z => absurd z.1 (by decide)) c_211))))
          have t_257 : (M239.2.1 77 69).toInt = v174.toInt := congrArg Int32.toInt c_256
          have k_259 : (4 : Int32).toInt = 4 := rfl
          have s_260 := Wx_f (M := M200) (M1 := M239) ((M200.2.1 77 65).toInt).toNat (fun i z => (F_n F234 (show ¬ (115 = 77 ∧ 7 ≤ i ∧ i ≤ 10) by omega) (W_n W226 (by omega) (W_n W222 (by omega) (W_n W215 (by omega) rfl)))))
          have s_261 : (M239.2.1 115 ((M200.2.1 77 65).toInt).toNat).toInt = (4 : Int32).toInt := by rw [show ((M200.2.1 77 65).toInt).toNat = ((M200.2.1 77 65).toInt).toNat by omega]; exact congrArg Int32.toInt (F_n F234 (show ¬ (115 = 77 ∧ 7 ≤ (((M200.2.1 77 65).toInt).toNat) ∧ (((M200.2.1 77 65).toInt).toNat) ≤ 10) by omega) (W_n W226 (by omega) (W_n W222 (by omega) (W_e W215))))
          have s_262 := Wx_s M239 ((M200.2.1 77 65).toInt).toNat
          have j_258 : QK M239 := QK_i (by unfold QK_c; rw [show ((M239.2.1 77 65).toInt).toNat = ((M200.2.1 77 65).toInt).toNat + 1 by omega]; refine ⟨by omega, by omega, by omega, by omega⟩) (fun i z => by
              by_cases ei : i = ((M200.2.1 77 65).toInt).toNat
              · rw [ei]; omega
              · rw [(F_n F234 (show ¬ (115 = 77 ∧ 7 ≤ i ∧ i ≤ 10) by omega) (W_n W226 (by omega) (W_n W222 (by omega) (W_n W215 (by omega) rfl))))]; exact p_197.2.1 i (by omega)) (by rw [(F_n F234 (show ¬ (77 = 77 ∧ 7 ≤ 59 ∧ 59 ≤ 10) by decide) (W_n W226 (by omega) (W_n W222 (by omega) (W_n W215 (by omega) rfl))))]; exact KN_f (fun a i z => (F_n F234 (show ¬ (a = 77 ∧ 7 ≤ i ∧ i ≤ 10) by omega) (W_n W226 (by /-r77,68-/ omega) (W_n W222 (by /-r77,65-/ omega) (W_n W215 (by /-r115-/ omega) rfl))))) p_197.2.2)
          have c_263 : M239.2.1 77 4 = (M.2.1 77 4) := (F_n F234 (show ¬ (77 = 77 ∧ 7 ≤ 4 ∧ 4 ≤ 10) by decide) (W_n W226 (by decide) (W_n W222 (by decide) (W_n W215 (fun z => absurd z.1 (by decide)) (F_n F195 (show ¬ (77 = 77 ∧ (4 = 59 ∨ 4 = 65 ∨ 4 = 66) ∨ 112 ≤ 77 ∧ 77 ≤ 114 ∧ 40 ≤ 4 ∨ 77 = 116) by decide) (W_n W176 (by decide) rfl))))))
          have t_264 : (M239.2.1 77 4).toInt = (M.2.1 77 4).toInt := congrArg Int32.toInt c_263
          have c_265 : M239.2.1 77 5 = (M.2.1 77 5) := (F_n F234 (show ¬ (77 = 77 ∧ 7 ≤ 5 ∧ 5 ≤ 10) by decide) (W_n W226 (by decide) (W_n W222 (by decide) (W_n W215 (fun z => absurd z.1 (by decide)) (F_n F195 (show ¬ (77 = 77 ∧ (5 = 59 ∨ 5 = 65 ∨ 5 = 66) ∨ 112 ≤ 77 ∧ 77 ≤ 114 ∧ 40 ≤ 5 ∨ 77 = 116) by decide) (W_n W176 (by decide) rfl))))))
          have t_266 : (M239.2.1 77 5).toInt = (M.2.1 77 5).toInt := congrArg Int32.toInt c_265
          exact h (1 : Int32) M239 hG235 F240 (by decide) (by decide) (by omega) (by omega) (by omega) (by omega) (fun _ => j_258) (by omega)
        · refine to_an (pc := 9) rw_224_9 rfl (to_c (pc := 10) rw_224_10 (x := (2 : Int32)) rfl rfl (s_v (pc := 11) rw_224_11 (dp1 hd (by decide)) (ls0 := [.ref 77, .int (2 : Int32)]) rfl (Nat.le_of_ble_eq_true rfl) (Nat.le_of_ble_eq_true rfl) rfl (to_rc rfl rfl rfl (g_o hG rfl)) rfl (to_an (pc := 0) rw_152_0 rfl (to_in (pc := 1) rw_152_1 rfl (s_pI (pc := 2) rw_152_2 hG rfl (fun M268 W267 => ?_))))))
          have hG269 := g_wf hG W267 rfl rfl (by decide)
          have F270 := FR.w F0 W267 (show 77 = 77 ∧ (4 = 4 ∨ 4 = 5 ∨ 7 ≤ 4 ∧ 4 ≤ 10) ∨ 77 = 77 ∧ (4 = 59 ∨ 65 ≤ 4 ∧ 4 ≤ 69) ∨ 112 ≤ 77 ∧ 77 ≤ 114 ∧ 40 ≤ 4 ∨ 77 = 115 ∨ 77 = 116 by decide)
          refine to_an (pc := 5) rw_152_5 rfl (to_an (pc := 6) rw_152_6 rfl ?_)
          have c_271 : M268.2.1 77 10 = (M.2.1 77 10) := (W_n W267 (by decide) rfl)
          have b_272 := g_b hG (a := 77) (i := 10) (lo := 0) (hi := 500) rfl rfl
          refine tt_gI (pc := 7) rw_152_7 (g_o hG269 rfl) (v := (M.2.1 77 10)) c_271 (s_pI (pc := 10) rw_152_10 hG269 rfl (fun M274 W273 => ?_))
          have hG275 := g_wf hG269 W273 rfl rfl (by decide)
          have F276 := FR.w F270 W273 (show 77 = 77 ∧ (5 = 4 ∨ 5 = 5 ∨ 7 ≤ 5 ∧ 5 ≤ 10) ∨ 77 = 77 ∧ (5 = 59 ∨ 65 ≤ 5 ∧ 5 ≤ 69) ∨ 112 ≤ 77 ∧ 77 ≤ 114 ∧ 40 ≤ 5 ∨ 77 = 115 ∨ 77 = 116 by decide)
          refine to_c (pc := 13) rw_152_13 (x := (0 : Int32)) rfl rfl (s_r1 (pc := 14) rw_152_14 (A := 0) rfl (by decide) (s_r1 (pc := 14) rw_224_14 (A := 0) rfl (by decide) (b_ine_f (pc := 37) rw_226_37 (A := 0) rfl (by decide) (to_c (pc := 40) rw_226_40 (x := (0 : Int32)) rfl rfl (s_r1 (pc := 41) rw_226_41 (A := 0) rfl (by decide) ?_)))))
          have k_277 : (0 : Int32).toInt = 0 := rfl
          have c_278 : M274.2.1 77 7 = (M.2.1 77 7) := (W_n W273 (by decide) (W_n W267 (by decide) rfl))
          have t_279 : (M274.2.1 77 7).toInt = (M.2.1 77 7).toInt := congrArg Int32.toInt c_278
          have c_280 : M274.2.1 77 6 = (M.2.1 77 6) := (W_n W273 (by decide) (W_n W267 (by decide) rfl))
          have t_281 : (M274.2.1 77 6).toInt = (M.2.1 77 6).toInt := congrArg Int32.toInt c_280
          have c_282 : M274.2.1 77 8 = (M.2.1 77 8) := (W_n W273 (by decide) (W_n W267 (by decide) rfl))
          have t_283 : (M274.2.1 77 8).toInt = (M.2.1 77 8).toInt := congrArg Int32.toInt c_282
          have c_284 : M274.2.1 77 4 = (2 : Int32) := (W_n W273 (by decide) (W_e W267))
          have k_285 : (2 : Int32).toInt = 2 := rfl
          have t_286 : (M274.2.1 77 4).toInt = (2 : Int32).toInt := congrArg Int32.toInt c_284
          have c_287 : M274.2.1 77 5 = (M.2.1 77 10) := (W_e W273)
          have t_288 : (M274.2.1 77 5).toInt = (M.2.1 77 10).toInt := congrArg Int32.toInt c_287
          exact h (0 : Int32) M274 hG275 F276 (by decide) (by decide) (by omega) (by omega) (by omega) (by omega) (fun z => absurd z (by omega)) (by omega)
  · refine to_an (pc := 8) rw_158_8 rfl (tt_gI (pc := 9) rw_158_9 (g_o hG rfl) (v := (M.2.1 77 9)) rfl (to_in (pc := 12) rw_158_12 rfl (b_cne (pc := 13) rw_158_13 (A := (M.2.1 77 9).toInt) (B := 12) rfl rfl (fun h289 => ?_) (fun h289 => ?_))))
    · refine to_c (pc := 20) rw_158_20 (x := (0 : Int32)) rfl rfl (s_r1 (pc := 21) rw_158_21 (A := 0) rfl (by decide) (b_ine_f (pc := 6) rw_226_6 (A := 0) rfl (by decide) (to_an (pc := 9) rw_226_9 rfl (to_c (pc := 10) rw_226_10 (x := (13 : Int32)) rfl rfl (s_v (pc := 12) rw_226_12 (dp0 hd (by decide)) (ls0 := [.ref 77, .int (13 : Int32)]) rfl (Nat.le_of_ble_eq_true rfl) (Nat.le_of_ble_eq_true rfl) rfl (to_rc rfl rfl rfl (g_o hG rfl)) rfl (to_an (pc := 0) rw_158_0 rfl (tt_gI (pc := 1) rw_158_1 (g_o hG rfl) (v := (M.2.1 77 8)) rfl (to_c (pc := 4) rw_158_4 (x := (1 : Int32)) rfl rfl (b_cne_f (pc := 5) rw_158_5 (A := (M.2.1 77 8).toInt) (B := 1) rfl rfl (by omega) (to_an (pc := 8) rw_158_8 rfl (tt_gI (pc := 9) rw_158_9 (g_o hG rfl) (v := (M.2.1 77 9)) rfl ?_)))))))))))
      refine to_in (pc := 12) rw_158_12 rfl (b_cne (pc := 13) rw_158_13 (A := (M.2.1 77 9).toInt) (B := 13) rfl rfl (fun h290 => ?_) (fun h290 => ?_))
      · refine to_c (pc := 20) rw_158_20 (x := (0 : Int32)) rfl rfl (s_r1 (pc := 21) rw_158_21 (A := 0) rfl (by decide) (b_ieq_t (pc := 15) rw_226_15 (A := 0) rfl (by decide) (to_an (pc := 82) rw_226_82 rfl (to_c (pc := 83) rw_226_83 (x := (41 : Int32)) rfl rfl (s_v (pc := 85) rw_226_85 (dp0 hd (by decide)) (ls0 := [.ref 77, .int (41 : Int32)]) rfl (Nat.le_of_ble_eq_true rfl) (Nat.le_of_ble_eq_true rfl) rfl (to_rc rfl rfl rfl (g_o hG rfl)) rfl (to_an (pc := 0) rw_159_0 rfl (tt_gI (pc := 1) rw_159_1 (g_o hG rfl) (v := (M.2.1 77 8)) rfl (to_c (pc := 4) rw_159_4 (x := (4 : Int32)) rfl rfl (b_cne_t (pc := 5) rw_159_5 (A := (M.2.1 77 8).toInt) (B := 4) rfl rfl (by omega) (to_c (pc := 20) rw_159_20 (x := (0 : Int32)) rfl rfl (s_r1 (pc := 21) rw_159_21 (A := 0) rfl (by decide) ?_)))))))))))
        refine b_ieq_t (pc := 88) rw_226_88 (A := 0) rfl (by decide) (to_an (pc := 98) rw_226_98 rfl (to_c (pc := 99) rw_226_99 (x := (1 : Int32)) rfl rfl (s_v (pc := 100) rw_226_100 (dp0 hd (by decide)) (ls0 := [.ref 77, .int (1 : Int32)]) rfl (Nat.le_of_ble_eq_true rfl) (Nat.le_of_ble_eq_true rfl) rfl (to_rc rfl rfl rfl (g_o hG rfl)) rfl (to_an (pc := 0) rw_152_0 rfl (to_in (pc := 1) rw_152_1 rfl (s_pI (pc := 2) rw_152_2 hG rfl (fun M292 W291 => ?_)))))))
        have hG293 := g_wf hG W291 rfl rfl (by decide)
        have F294 := FR.w F0 W291 (show 77 = 77 ∧ (4 = 4 ∨ 4 = 5 ∨ 7 ≤ 4 ∧ 4 ≤ 10) ∨ 77 = 77 ∧ (4 = 59 ∨ 65 ≤ 4 ∧ 4 ≤ 69) ∨ 112 ≤ 77 ∧ 77 ≤ 114 ∧ 40 ≤ 4 ∨ 77 = 115 ∨ 77 = 116 by decide)
        refine to_an (pc := 5) rw_152_5 rfl (to_an (pc := 6) rw_152_6 rfl ?_)
        have c_295 : M292.2.1 77 10 = (M.2.1 77 10) := (W_n W291 (by decide) rfl)
        have b_296 := g_b hG (a := 77) (i := 10) (lo := 0) (hi := 500) rfl rfl
        refine tt_gI (pc := 7) rw_152_7 (g_o hG293 rfl) (v := (M.2.1 77 10)) c_295 (s_pI (pc := 10) rw_152_10 hG293 rfl (fun M298 W297 => ?_))
        have hG299 := g_wf hG293 W297 rfl rfl (by decide)
        have F300 := FR.w F294 W297 (show 77 = 77 ∧ (5 = 4 ∨ 5 = 5 ∨ 7 ≤ 5 ∧ 5 ≤ 10) ∨ 77 = 77 ∧ (5 = 59 ∨ 65 ≤ 5 ∧ 5 ≤ 69) ∨ 112 ≤ 77 ∧ 77 ≤ 114 ∧ 40 ≤ 5 ∨ 77 = 115 ∨ 77 = 116 by decide)
        refine to_c (pc := 13) rw_152_13 (x := (0 : Int32)) rfl rfl (s_r1 (pc := 14) rw_152_14 (A := 0) rfl (by decide) (s_r1 (pc := 103) rw_226_103 (A := 0) rfl (by decide) ?_))
        have k_301 : (0 : Int32).toInt = 0 := rfl
        have c_302 : M298.2.1 77 7 = (M.2.1 77 7) := (W_n W297 (by decide) (W_n W291 (by decide) rfl))
        have t_303 : (M298.2.1 77 7).toInt = (M.2.1 77 7).toInt := congrArg Int32.toInt c_302
        have c_304 : M298.2.1 77 6 = (M.2.1 77 6) := (W_n W297 (by decide) (W_n W291 (by decide) rfl))
        have t_305 : (M298.2.1 77 6).toInt = (M.2.1 77 6).toInt := congrArg Int32.toInt c_304
        have c_306 : M298.2.1 77 8 = (M.2.1 77 8) := (W_n W297 (by decide) (W_n W291 (by decide) rfl))
        have t_307 : (M298.2.1 77 8).toInt = (M.2.1 77 8).toInt := congrArg Int32.toInt c_306
        have c_308 : M298.2.1 77 4 = (1 : Int32) := (W_n W297 (by decide) (W_e W291))
        have k_309 : (1 : Int32).toInt = 1 := rfl
        have t_310 : (M298.2.1 77 4).toInt = (1 : Int32).toInt := congrArg Int32.toInt c_308
        have c_311 : M298.2.1 77 5 = (M.2.1 77 10) := (W_e W297)
        have t_312 : (M298.2.1 77 5).toInt = (M.2.1 77 10).toInt := congrArg Int32.toInt c_311
        exact h (0 : Int32) M298 hG299 F300 (by decide) (by decide) (by omega) (by omega) (by omega) (by omega) (fun z => absurd z (by omega)) (by omega)
      · refine to_c (pc := 16) rw_158_16 (x := (1 : Int32)) rfl rfl (to_go (pc := 17) rw_158_17 (s_r1 (pc := 21) rw_158_21 (A := 1) rfl (by decide) (b_ieq_f (pc := 15) rw_226_15 (A := 1) rfl (by decide) (to_an (pc := 18) rw_226_18 rfl (tt_gI (pc := 19) rw_226_19 (g_o hG rfl) (v := (M.2.1 77 9)) rfl (to_c (pc := 22) rw_226_22 (x := (12 : Int32)) rfl rfl (b_cne_t (pc := 24) rw_226_24 (A := (M.2.1 77 9).toInt) (B := 12) rfl rfl (by omega) (to_c (pc := 31) rw_226_31 (x := (4 : Int32)) rfl rfl (to_isn (pc := 32) rw_226_32 (ls2 := [.ref 77, .int (4 : Int32)]) rfl rfl (to_an (pc := 33) rw_226_33 rfl (s_v (pc := 34) rw_226_34 (dp0 hd (by decide)) (ls0 := [.ref 77]) rfl (Nat.le_of_ble_eq_true rfl) (Nat.le_of_ble_eq_true rfl) rfl (to_rc rfl rfl rfl (g_o hG rfl)) rfl ?_)))))))))))
        refine to_an (pc := 0) rw_224_0 rfl (tt_gI (pc := 1) rw_224_1 (g_o hG rfl) (v := (M.2.1 77 69)) rfl (to_c (pc := 4) rw_224_4 (x := (40 : Int32)) rfl rfl (b_cne (pc := 6) rw_224_6 (A := (M.2.1 77 69).toInt) (B := 40) rfl rfl (fun h313 => ?_) (fun h313 => ?_))))
        · refine to_an (pc := 15) rw_224_15 rfl (to_dupr (pc := 16) rw_224_16 (tt_gI (pc := 17) rw_224_17 (g_o hG rfl) (v := (M.2.1 77 69)) rfl (to_c (pc := 20) rw_224_20 (x := (1 : Int32)) rfl rfl (s_add (pc := 21) rw_224_21 (A := (M.2.1 77 69).toInt) (B := 1) rfl rfl (by omega) (fun v314 e315 => s_pI (pc := 22) rw_224_22 hG rfl (fun M317 W316 => ?_))))))
          have hG318 := g_w hG W316 (A := v314.toInt) rfl (lo := 0) (hi := 40) rfl rfl (by omega) (by decide)
          have F319 := FR.w F0 W316 (show 77 = 77 ∧ (69 = 4 ∨ 69 = 5 ∨ 7 ≤ 69 ∧ 69 ≤ 10) ∨ 77 = 77 ∧ (69 = 59 ∨ 65 ≤ 69 ∧ 69 ≤ 69) ∨ 112 ≤ 77 ∧ 77 ≤ 114 ∧ 40 ≤ 69 ∨ 77 = 115 ∨ 77 = 116 by decide)
          refine to_c (pc := 25) rw_224_25 (x := (1 : Int32)) rfl rfl (s_r1 (pc := 26) rw_224_26 (A := 1) rfl (by decide) (b_ine_t (pc := 37) rw_226_37 (A := 1) rfl (by decide) (to_an (pc := 42) rw_226_42 rfl (to_an (pc := 43) rw_226_43 rfl (to_in (pc := 44) rw_226_44 rfl (s_v (pc := 45) rw_226_45 (dp0 hd (by decide)) (ls0 := [.ref 77, .int (4 : Int32)]) rfl (Nat.le_of_ble_eq_true rfl) (Nat.le_of_ble_eq_true rfl) rfl (to_rc rfl rfl rfl (g_o hG318 rfl)) rfl (to_in (pc := 0) rw_220_0 rfl (to_c (pc := 1) rw_220_1 (x := (2 : Int32)) rfl rfl (b_cne_t (pc := 2) rw_220_2 (A := 4) (B := 2) rfl rfl (by decide) (to_in (pc := 9) rw_220_9 rfl (to_c (pc := 10) rw_220_10 (x := (3 : Int32)) rfl rfl ?_)))))))))))
          refine b_cne_t (pc := 11) rw_220_11 (A := 4) (B := 3) rfl rfl (by decide) (to_in (pc := 18) rw_220_18 rfl (to_c (pc := 19) rw_220_19 (x := (4 : Int32)) rfl rfl (b_cne_f (pc := 20) rw_220_20 (A := 4) (B := 4) rfl rfl (by decide) (to_c (pc := 23) rw_220_23 (x := (1 : Int32)) rfl rfl (to_go (pc := 24) rw_220_24 (to_r0 (pc := 28) rw_220_28 (s_v (pc := 48) rw_226_48 (dp0 hd (by decide)) (ls0 := [.ref 77, .int (1 : Int32), .null, .null, .null]) rfl (Nat.le_of_ble_eq_true rfl) (Nat.le_of_ble_eq_true rfl) rfl (to_rc rfl rfl rfl (g_o hG318 rfl)) rfl ?_)))))))
          have k_320 : (1 : Int32).toInt = 1 := rfl
          have c_321 : M317.2.1 77 59 = (M.2.1 77 59) := (W_n W316 (by decide) rfl)
          have t_322 : (M317.2.1 77 59).toInt = (M.2.1 77 59).toInt := congrArg Int32.toInt c_321
          have c_323 : M317.2.1 77 65 = (M.2.1 77 65) := (W_n W316 (by decide) rfl)
          have t_324 : (M317.2.1 77 65).toInt = (M.2.1 77 65).toInt := congrArg Int32.toInt c_323
          have c_325 : M317.2.1 77 66 = (M.2.1 77 66) := (W_n W316 (by decide) rfl)
          have t_326 : (M317.2.1 77 66).toInt = (M.2.1 77 66).toInt := congrArg Int32.toInt c_325
          have c_327 : M317.2.1 77 67 = (M.2.1 77 67) := (W_n W316 (by decide) rfl)
          have t_328 : (M317.2.1 77 67).toInt = (M.2.1 77 67).toInt := congrArg Int32.toInt c_327
          have c_329 : M317.2.1 77 68 = (M.2.1 77 68) := (W_n W316 (by decide) rfl)
          have t_330 : (M317.2.1 77 68).toInt = (M.2.1 77 68).toInt := congrArg Int32.toInt c_329
          have c_331 : M317.2.1 77 69 = v314 := (W_e W316)
          have t_332 : (M317.2.1 77 69).toInt = v314.toInt := congrArg Int32.toInt c_331
          have s_334 := Wx_f (M := M) (M1 := M317) ((M.2.1 77 65).toInt).toNat (fun i z => (W_n W316 (by omega) rfl))
          have j_333 : QK M317 := QK_i (by unfold QK_c; rw [show ((M317.2.1 77 65).toInt).toNat = ((M.2.1 77 65).toInt).toNat by omega]; refine ⟨by omega, by omega, by omega, by omega⟩) (fun i z => by rw [(W_n W316 (by omega) rfl)]; exact q2.2.1 i (by omega)) (by rw [(W_n W316 (by omega) rfl)]; exact KN_f (fun a i z => (W_n W316 (by /-r77,69-/ omega) rfl)) q2.2.2)
          refine C_223 hX (dp1 hd (by decide)) hG318 (by omega) (by omega) (by omega) j_333 (l := (1 : Int32)) (fun M340 hG336 F335 p_337 p_338 p_339 => ?_)
          have F341 := FR.c F319 F335 tg_388
          have s_342 := p_338
          have s_343 : Wo M317 ((M317.2.1 77 65).toInt).toNat = Wo M ((M.2.1 77 65).toInt).toNat := by rw [show (M317.2.1 77 65) = (M.2.1 77 65) from (W_n W316 (by omega) rfl)]; exact (Wx_f (M := M) (M1 := M317) _ (fun i z => (W_n W316 (by omega) rfl))).1
          have b_344 := g_b hG336 (a := 77) (i := 59) (lo := 0) (hi := 40) rfl rfl
          have b_345 := g_b hG336 (a := 77) (i := 65) (lo := 0) (hi := 48) rfl rfl
          have b_346 := g_b hG336 (a := 77) (i := 66) (lo := 0) (hi := 40) rfl rfl
          have c_347 : M340.2.1 77 67 = (M.2.1 77 67) := (F_n F335 (show ¬ (77 = 77 ∧ (67 = 59 ∨ 67 = 65 ∨ 67 = 66) ∨ 112 ≤ 77 ∧ 77 ≤ 114 ∧ 40 ≤ 67 ∨ 77 = 116) by decide) c_327)
          have t_348 : (M340.2.1 77 67).toInt = (M.2.1 77 67).toInt := congrArg Int32.toInt c_347
          have c_349 : M340.2.1 77 68 = (M.2.1 77 68) := (F_n F335 (show ¬ (77 = 77 ∧ (68 = 59 ∨ 68 = 65 ∨ 68 = 66) ∨ 112 ≤ 77 ∧ 77 ≤ 114 ∧ 40 ≤ 68 ∨ 77 = 116) by decide) c_329)
          have t_350 : (M340.2.1 77 68).toInt = (M.2.1 77 68).toInt := congrArg Int32.toInt c_349
          have c_351 : M340.2.1 77 69 = v314 := (F_n F335 (show ¬ (77 = 77 ∧ (69 = 59 ∨ 69 = 65 ∨ 69 = 66) ∨ 112 ≤ 77 ∧ 77 ≤ 114 ∧ 40 ≤ 69 ∨ 77 = 116) by decide) c_331)
          have t_352 : (M340.2.1 77 69).toInt = v314.toInt := congrArg Int32.toInt c_351
          have s_353 := QK_e p_337
          have s_354 := Wx_b M340 ((M340.2.1 77 65).toInt).toNat
          refine to_an (pc := 51) rw_226_51 rfl (s_gR (pc := 52) rw_226_52 hG336 rfl (v := 115) rfl (to_an (pc := 55) rw_226_55 rfl (tt_gI (pc := 56) rw_226_56 (g_o hG336 rfl) (v := (M340.2.1 77 65)) rfl (to_in (pc := 59) rw_226_59 rfl (s_ias (pc := 60) rw_226_60 hG336 rfl (n := 64) rfl (A := (M340.2.1 77 65).toInt) rfl (by omega) (by omega) (fun M356 W355 => ?_))))))
          have hG357 := g_w hG336 W355 (A := 4) rfl (lo := 0) (hi := 4) rfl rfl (by omega) (by decide)
          have F358 := FR.w F341 W355 (show 115 = 77 ∧ (((M340.2.1 77 65).toInt).toNat = 4 ∨ ((M340.2.1 77 65).toInt).toNat = 5 ∨ 7 ≤ ((M340.2.1 77 65).toInt).toNat ∧ ((M340.2.1 77 65).toInt).toNat ≤ 10) ∨ 115 = 77 ∧ (((M340.2.1 77 65).toInt).toNat = 59 ∨ 65 ≤ ((M340.2.1 77 65).toInt).toNat ∧ ((M340.2.1 77 65).toInt).toNat ≤ 69) ∨ 112 ≤ 115 ∧ 115 ≤ 114 ∧ 40 ≤ ((M340.2.1 77 65).toInt).toNat ∨ 115 = 115 ∨ 115 = 116 by omega)
          refine to_an (pc := 61) rw_226_61 rfl (to_dupr (pc := 62) rw_226_62 ?_)
          have c_359 : M356.2.1 77 65 = (M340.2.1 77 65) := (W_n W355 (fun z => absurd z.1 (by decide)) rfl)
          refine tt_gI (pc := 63) rw_226_63 (g_o hG357 rfl) (v := (M340.2.1 77 65)) c_359 (to_c (pc := 66) rw_226_66 (x := (1 : Int32)) rfl rfl (s_add (pc := 67) rw_226_67 (A := (M340.2.1 77 65).toInt) (B := 1) rfl rfl (by omega) (fun v360 e361 => s_pI (pc := 68) rw_226_68 hG357 rfl (fun M363 W362 => ?_))))
          have hG364 := g_w hG357 W362 (A := v360.toInt) rfl (lo := 0) (hi := 48) rfl rfl (by omega) (by decide)
          have F365 := FR.w F358 W362 (show 77 = 77 ∧ (65 = 4 ∨ 65 = 5 ∨ 7 ≤ 65 ∧ 65 ≤ 10) ∨ 77 = 77 ∧ (65 = 59 ∨ 65 ≤ 65 ∧ 65 ≤ 69) ∨ 112 ≤ 77 ∧ 77 ≤ 114 ∧ 40 ≤ 65 ∨ 77 = 115 ∨ 77 = 116 by decide)
          refine to_an (pc := 71) rw_226_71 rfl (to_c (pc := 72) rw_226_72 (x := (0 : Int32)) rfl rfl (s_pI (pc := 73) rw_226_73 hG364 rfl (fun M367 W366 => ?_)))
          have hG368 := g_w hG364 W366 (A := 0) rfl (lo := 0) (hi := 1) rfl rfl (by omega) (by decide)
          have F369 := FR.w F365 W366 (show 77 = 77 ∧ (68 = 4 ∨ 68 = 5 ∨ 7 ≤ 68 ∧ 68 ≤ 10) ∨ 77 = 77 ∧ (68 = 59 ∨ 65 ≤ 68 ∧ 68 ≤ 69) ∨ 112 ≤ 77 ∧ 77 ≤ 114 ∧ 40 ≤ 68 ∨ 77 = 115 ∨ 77 = 116 by decide)
          refine to_an (pc := 76) rw_226_76 rfl (s_v (pc := 77) rw_226_77 (dp0 hd (by decide)) (ls0 := [.ref 77]) rfl (Nat.le_of_ble_eq_true rfl) (Nat.le_of_ble_eq_true rfl) rfl (to_rc rfl rfl rfl (g_o hG368 rfl)) rfl ?_)
          have c_370 : M367.2.1 77 7 = (M.2.1 77 7) := (W_n W366 (by decide) (W_n W362 (by decide) (W_n W355 (fun z => absurd z.1 (by decide)) (F_n F335 (show ¬ (77 = 77 ∧ (7 = 59 ∨ 7 = 65 ∨ 7 = 66) ∨ 112 ≤ 77 ∧ 77 ≤ 114 ∧ 40 ≤ 7 ∨ 77 = 116) by decide) (W_n W316 (by decide) rfl)))))
          have t_371 : (M367.2.1 77 7).toInt = (M.2.1 77 7).toInt := congrArg Int32.toInt c_370
          have c_372 : M367.2.1 77 6 = (M.2.1 77 6) := (W_n W366 (by decide) (W_n W362 (by decide) (W_n W355 (fun z => absurd z.1 (by decide)) (F_n F335 (show ¬ (77 = 77 ∧ (6 = 59 ∨ 6 = 65 ∨ 6 = 66) ∨ 112 ≤ 77 ∧ 77 ≤ 114 ∧ 40 ≤ 6 ∨ 77 = 116) by decide) (W_n W316 (by decide) rfl)))))
          have t_373 : (M367.2.1 77 6).toInt = (M.2.1 77 6).toInt := congrArg Int32.toInt c_372
          refine C_156 hX (dp1 hd (by decide)) hG368 (by omega)  (fun M379 hG375 F374 p_376 p_377 p_378 => ?_)
          have F380 := FR.c F369 F374 tg_389
          have b_381 := g_b hG375 (a := 77) (i := 7) (lo := 0) (hi := 500) rfl rfl
          have c_382 : M379.2.1 77 6 = (M.2.1 77 6) := (F_n F374 (show ¬ (77 = 77 ∧ 7 ≤ 6 ∧ 6 ≤ 10) by decide) c_372)
          have t_383 : (M379.2.1 77 6).toInt = (M.2.1 77 6).toInt := congrArg Int32.toInt c_382
          have b_384 := g_b hG375 (a := 77) (i := 8) (lo := 0) (hi := 5) rfl rfl
          refine to_c (pc := 80) rw_226_80 (x := (1 : Int32)) rfl rfl (s_r1 (pc := 81) rw_226_81 (A := 1) rfl (by decide) ?_)
          have c_385 : M379.2.1 77 59 = (M340.2.1 77 59) := (F_n F374 (show ¬ (77 = 77 ∧ 7 ≤ 59 ∧ 59 ≤ 10) by decide) (W_n W366 (by decide) (W_n W362 (by decide) (W_n W355 (fun z => absurd z.1 (by decide)) rfl))))
          have t_386 : (M379.2.1 77 59).toInt = (M340.2.1 77 59).toInt := congrArg Int32.toInt c_385
          have c_387 : M379.2.1 77 65 = v360 := (F_n F374 (show ¬ (77 = 77 ∧ 7 ≤ 65 ∧ 65 ≤ 10) by decide) (W_n W366 (by decide) (W_e W362)))
          have t_388 : (M379.2.1 77 65).toInt = v360.toInt := congrArg Int32.toInt c_387
          have c_389 : M379.2.1 77 66 = (M340.2.1 77 66) := (F_n F374 (show ¬ (77 = 77 ∧ 7 ≤ 66 ∧ 66 ≤ 10) by decide) (W_n W366 (by decide) (W_n W362 (by decide) (W_n W355 (fun z => absurd z.1 (by decide)) rfl))))
          have t_390 : (M379.2.1 77 66).toInt = (M340.2.1 77 66).toInt := congrArg Int32.toInt c_389
          have c_391 : M379.2.1 77 67 = (M.2.1 77 67) := (F_n F374 (show ¬ (77 = 77 ∧ 7 ≤ 67 ∧ 67 ≤ 10) by decide) (W_n W366 (by decide) (W_n W362 (by decide) (W_n W355 (fun z => absurd z.1 (by decide)) c_347))))
          have t_392 : (M379.2.1 77 67).toInt = (M.2.1 77 67).toInt := congrArg Int32.toInt c_391
          have c_393 : M379.2.1 77 68 = (0 : Int32) := (F_n F374 (show ¬ (77 = 77 ∧ 7 ≤ 68 ∧ 68 ≤ 10) by decide) (W_e W366))
          have k_394 : (0 : Int32).toInt = 0 := rfl
          have t_395 : (M379.2.1 77 68).toInt = (0 : Int32).toInt := congrArg Int32.toInt c_393
          have c_396 : M379.2.1 77 69 = v314 := (F_n F374 (show ¬ (77 = 77 ∧ 7 ≤ 69 ∧ 69 ≤ 10) by decide) (W_n W366 (by decide) (W_n W362 (by decide) (W_n W355 (fun z => absurd z.1 (by decide)) c_351))))
          have t_397 : (M379.2.1 77 69).toInt = v314.toInt := congrArg Int32.toInt c_396
          have k_399 : (4 : Int32).toInt = 4 := rfl
          have s_400 := Wx_f (M := M340) (M1 := M379) ((M340.2.1 77 65).toInt).toNat (fun i z => (F_n F374 (show ¬ (115 = 77 ∧ 7 ≤ i ∧ i ≤ 10) by omega) (W_n W366 (by omega) (W_n W362 (by omega) (W_n W355 (by omega) rfl)))))
          have s_401 : (M379.2.1 115 ((M340.2.1 77 65).toInt).toNat).toInt = (4 : Int32).toInt := by rw [show ((M340.2.1 77 65).toInt).toNat = ((M340.2.1 77 65).toInt).toNat by omega]; exact congrArg Int32.toInt (F_n F374 (show ¬ (115 = 77 ∧ 7 ≤ (((M340.2.1 77 65).toInt).toNat) ∧ (((M340.2.1 77 65).toInt).toNat) ≤ 10) by omega) (W_n W366 (by omega) (W_n W362 (by omega) (W_e W355))))
          have s_402 := Wx_s M379 ((M340.2.1 77 65).toInt).toNat
          have j_398 : QK M379 := QK_i (by unfold QK_c; rw [show ((M379.2.1 77 65).toInt).toNat = ((M340.2.1 77 65).toInt).toNat + 1 by omega]; refine ⟨by omega, by omega, by omega, by omega⟩) (fun i z => by
              by_cases ei : i = ((M340.2.1 77 65).toInt).toNat
              · rw [ei]; omega
              · rw [(F_n F374 (show ¬ (115 = 77 ∧ 7 ≤ i ∧ i ≤ 10) by omega) (W_n W366 (by omega) (W_n W362 (by omega) (W_n W355 (by omega) rfl))))]; exact p_337.2.1 i (by omega)) (by rw [(F_n F374 (show ¬ (77 = 77 ∧ 7 ≤ 59 ∧ 59 ≤ 10) by decide) (W_n W366 (by omega) (W_n W362 (by omega) (W_n W355 (by omega) rfl))))]; exact KN_f (fun a i z => (F_n F374 (show ¬ (a = 77 ∧ 7 ≤ i ∧ i ≤ 10) by omega) (W_n W366 (by /-r77,68-/ omega) (W_n W362 (by /-r77,65-/ omega) (W_n W355 (by /-r115-/ omega) rfl))))) p_337.2.2)
          have c_403 : M379.2.1 77 4 = (M.2.1 77 4) := (F_n F374 (show ¬ (77 = 77 ∧ 7 ≤ 4 ∧ 4 ≤ 10) by decide) (W_n W366 (by decide) (W_n W362 (by decide) (W_n W355 (fun z => absurd z.1 (by decide)) (F_n F335 (show ¬ (77 = 77 ∧ (4 = 59 ∨ 4 = 65 ∨ 4 = 66) ∨ 112 ≤ 77 ∧ 77 ≤ 114 ∧ 40 ≤ 4 ∨ 77 = 116) by decide) (W_n W316 (by decide) rfl))))))
          have t_404 : (M379.2.1 77 4).toInt = (M.2.1 77 4).toInt := congrArg Int32.toInt c_403
          have c_405 : M379.2.1 77 5 = (M.2.1 77 5) := (F_n F374 (show ¬ (77 = 77 ∧ 7 ≤ 5 ∧ 5 ≤ 10) by decide) (W_n W366 (by decide) (W_n W362 (by decide) (W_n W355 (fun z => absurd z.1 (by decide)) (F_n F335 (show ¬ (77 = 77 ∧ (5 = 59 ∨ 5 = 65 ∨ 5 = 66) ∨ 112 ≤ 77 ∧ 77 ≤ 114 ∧ 40 ≤ 5 ∨ 77 = 116) by decide) (W_n W316 (by decide) rfl))))))
          have t_406 : (M379.2.1 77 5).toInt = (M.2.1 77 5).toInt := congrArg Int32.toInt c_405
          exact h (1 : Int32) M379 hG375 F380 (by decide) (by decide) (by omega) (by omega) (by omega) (by omega) (fun _ => j_398) (by omega)
        · refine to_an (pc := 9) rw_224_9 rfl (to_c (pc := 10) rw_224_10 (x := (2 : Int32)) rfl rfl (s_v (pc := 11) rw_224_11 (dp1 hd (by decide)) (ls0 := [.ref 77, .int (2 : Int32)]) rfl (Nat.le_of_ble_eq_true rfl) (Nat.le_of_ble_eq_true rfl) rfl (to_rc rfl rfl rfl (g_o hG rfl)) rfl (to_an (pc := 0) rw_152_0 rfl (to_in (pc := 1) rw_152_1 rfl (s_pI (pc := 2) rw_152_2 hG rfl (fun M408 W407 => ?_))))))
          have hG409 := g_wf hG W407 rfl rfl (by decide)
          have F410 := FR.w F0 W407 (show 77 = 77 ∧ (4 = 4 ∨ 4 = 5 ∨ 7 ≤ 4 ∧ 4 ≤ 10) ∨ 77 = 77 ∧ (4 = 59 ∨ 65 ≤ 4 ∧ 4 ≤ 69) ∨ 112 ≤ 77 ∧ 77 ≤ 114 ∧ 40 ≤ 4 ∨ 77 = 115 ∨ 77 = 116 by decide)
          refine to_an (pc := 5) rw_152_5 rfl (to_an (pc := 6) rw_152_6 rfl ?_)
          have c_411 : M408.2.1 77 10 = (M.2.1 77 10) := (W_n W407 (by decide) rfl)
          have b_412 := g_b hG (a := 77) (i := 10) (lo := 0) (hi := 500) rfl rfl
          refine tt_gI (pc := 7) rw_152_7 (g_o hG409 rfl) (v := (M.2.1 77 10)) c_411 (s_pI (pc := 10) rw_152_10 hG409 rfl (fun M414 W413 => ?_))
          have hG415 := g_wf hG409 W413 rfl rfl (by decide)
          have F416 := FR.w F410 W413 (show 77 = 77 ∧ (5 = 4 ∨ 5 = 5 ∨ 7 ≤ 5 ∧ 5 ≤ 10) ∨ 77 = 77 ∧ (5 = 59 ∨ 65 ≤ 5 ∧ 5 ≤ 69) ∨ 112 ≤ 77 ∧ 77 ≤ 114 ∧ 40 ≤ 5 ∨ 77 = 115 ∨ 77 = 116 by decide)
          refine to_c (pc := 13) rw_152_13 (x := (0 : Int32)) rfl rfl (s_r1 (pc := 14) rw_152_14 (A := 0) rfl (by decide) (s_r1 (pc := 14) rw_224_14 (A := 0) rfl (by decide) (b_ine_f (pc := 37) rw_226_37 (A := 0) rfl (by decide) (to_c (pc := 40) rw_226_40 (x := (0 : Int32)) rfl rfl (s_r1 (pc := 41) rw_226_41 (A := 0) rfl (by decide) ?_)))))
          have k_417 : (0 : Int32).toInt = 0 := rfl
          have c_418 : M414.2.1 77 7 = (M.2.1 77 7) := (W_n W413 (by decide) (W_n W407 (by decide) rfl))
          have t_419 : (M414.2.1 77 7).toInt = (M.2.1 77 7).toInt := congrArg Int32.toInt c_418
          have c_420 : M414.2.1 77 6 = (M.2.1 77 6) := (W_n W413 (by decide) (W_n W407 (by decide) rfl))
          have t_421 : (M414.2.1 77 6).toInt = (M.2.1 77 6).toInt := congrArg Int32.toInt c_420
          have c_422 : M414.2.1 77 8 = (M.2.1 77 8) := (W_n W413 (by decide) (W_n W407 (by decide) rfl))
          have t_423 : (M414.2.1 77 8).toInt = (M.2.1 77 8).toInt := congrArg Int32.toInt c_422
          have c_424 : M414.2.1 77 4 = (2 : Int32) := (W_n W413 (by decide) (W_e W407))
          have k_425 : (2 : Int32).toInt = 2 := rfl
          have t_426 : (M414.2.1 77 4).toInt = (2 : Int32).toInt := congrArg Int32.toInt c_424
          have c_427 : M414.2.1 77 5 = (M.2.1 77 10) := (W_e W413)
          have t_428 : (M414.2.1 77 5).toInt = (M.2.1 77 10).toInt := congrArg Int32.toInt c_427
          exact h (0 : Int32) M414 hG415 F416 (by decide) (by decide) (by omega) (by omega) (by omega) (by omega) (fun z => absurd z (by omega)) (by omega)
    · refine to_c (pc := 16) rw_158_16 (x := (1 : Int32)) rfl rfl (to_go (pc := 17) rw_158_17 (s_r1 (pc := 21) rw_158_21 (A := 1) rfl (by decide) (b_ine_t (pc := 6) rw_226_6 (A := 1) rfl (by decide) (to_an (pc := 18) rw_226_18 rfl (tt_gI (pc := 19) rw_226_19 (g_o hG rfl) (v := (M.2.1 77 9)) rfl (to_c (pc := 22) rw_226_22 (x := (12 : Int32)) rfl rfl (b_cne_f (pc := 24) rw_226_24 (A := (M.2.1 77 9).toInt) (B := 12) rfl rfl (by omega) (to_c (pc := 27) rw_226_27 (x := (3 : Int32)) rfl rfl (to_go (pc := 28) rw_226_28 (to_isn (pc := 32) rw_226_32 (ls2 := [.ref 77, .int (3 : Int32)]) rfl rfl (to_an (pc := 33) rw_226_33 rfl ?_)))))))))))
      refine s_v (pc := 34) rw_226_34 (dp0 hd (by decide)) (ls0 := [.ref 77]) rfl (Nat.le_of_ble_eq_true rfl) (Nat.le_of_ble_eq_true rfl) rfl (to_rc rfl rfl rfl (g_o hG rfl)) rfl (to_an (pc := 0) rw_224_0 rfl (tt_gI (pc := 1) rw_224_1 (g_o hG rfl) (v := (M.2.1 77 69)) rfl (to_c (pc := 4) rw_224_4 (x := (40 : Int32)) rfl rfl (b_cne (pc := 6) rw_224_6 (A := (M.2.1 77 69).toInt) (B := 40) rfl rfl (fun h429 => ?_) (fun h429 => ?_)))))
      · refine to_an (pc := 15) rw_224_15 rfl (to_dupr (pc := 16) rw_224_16 (tt_gI (pc := 17) rw_224_17 (g_o hG rfl) (v := (M.2.1 77 69)) rfl (to_c (pc := 20) rw_224_20 (x := (1 : Int32)) rfl rfl (s_add (pc := 21) rw_224_21 (A := (M.2.1 77 69).toInt) (B := 1) rfl rfl (by omega) (fun v430 e431 => s_pI (pc := 22) rw_224_22 hG rfl (fun M433 W432 => ?_))))))
        have hG434 := g_w hG W432 (A := v430.toInt) rfl (lo := 0) (hi := 40) rfl rfl (by omega) (by decide)
        have F435 := FR.w F0 W432 (show 77 = 77 ∧ (69 = 4 ∨ 69 = 5 ∨ 7 ≤ 69 ∧ 69 ≤ 10) ∨ 77 = 77 ∧ (69 = 59 ∨ 65 ≤ 69 ∧ 69 ≤ 69) ∨ 112 ≤ 77 ∧ 77 ≤ 114 ∧ 40 ≤ 69 ∨ 77 = 115 ∨ 77 = 116 by decide)
        refine to_c (pc := 25) rw_224_25 (x := (1 : Int32)) rfl rfl (s_r1 (pc := 26) rw_224_26 (A := 1) rfl (by decide) (b_ine_t (pc := 37) rw_226_37 (A := 1) rfl (by decide) (to_an (pc := 42) rw_226_42 rfl (to_an (pc := 43) rw_226_43 rfl (to_in (pc := 44) rw_226_44 rfl (s_v (pc := 45) rw_226_45 (dp0 hd (by decide)) (ls0 := [.ref 77, .int (3 : Int32)]) rfl (Nat.le_of_ble_eq_true rfl) (Nat.le_of_ble_eq_true rfl) rfl (to_rc rfl rfl rfl (g_o hG434 rfl)) rfl (to_in (pc := 0) rw_220_0 rfl (to_c (pc := 1) rw_220_1 (x := (2 : Int32)) rfl rfl (b_cne_t (pc := 2) rw_220_2 (A := 3) (B := 2) rfl rfl (by decide) (to_in (pc := 9) rw_220_9 rfl (to_c (pc := 10) rw_220_10 (x := (3 : Int32)) rfl rfl ?_)))))))))))
        refine b_cne_f (pc := 11) rw_220_11 (A := 3) (B := 3) rfl rfl (by decide) (to_c (pc := 14) rw_220_14 (x := (2 : Int32)) rfl rfl (to_go (pc := 15) rw_220_15 (to_r0 (pc := 28) rw_220_28 (s_v (pc := 48) rw_226_48 (dp0 hd (by decide)) (ls0 := [.ref 77, .int (2 : Int32), .null, .null, .null]) rfl (Nat.le_of_ble_eq_true rfl) (Nat.le_of_ble_eq_true rfl) rfl (to_rc rfl rfl rfl (g_o hG434 rfl)) rfl ?_))))
        have k_436 : (2 : Int32).toInt = 2 := rfl
        have c_437 : M433.2.1 77 59 = (M.2.1 77 59) := (W_n W432 (by decide) rfl)
        have t_438 : (M433.2.1 77 59).toInt = (M.2.1 77 59).toInt := congrArg Int32.toInt c_437
        have c_439 : M433.2.1 77 65 = (M.2.1 77 65) := (W_n W432 (by decide) rfl)
        have t_440 : (M433.2.1 77 65).toInt = (M.2.1 77 65).toInt := congrArg Int32.toInt c_439
        have c_441 : M433.2.1 77 66 = (M.2.1 77 66) := (W_n W432 (by decide) rfl)
        have t_442 : (M433.2.1 77 66).toInt = (M.2.1 77 66).toInt := congrArg Int32.toInt c_441
        have c_443 : M433.2.1 77 67 = (M.2.1 77 67) := (W_n W432 (by decide) rfl)
        have t_444 : (M433.2.1 77 67).toInt = (M.2.1 77 67).toInt := congrArg Int32.toInt c_443
        have c_445 : M433.2.1 77 68 = (M.2.1 77 68) := (W_n W432 (by decide) rfl)
        have t_446 : (M433.2.1 77 68).toInt = (M.2.1 77 68).toInt := congrArg Int32.toInt c_445
        have c_447 : M433.2.1 77 69 = v430 := (W_e W432)
        have t_448 : (M433.2.1 77 69).toInt = v430.toInt := congrArg Int32.toInt c_447
        have s_450 := Wx_f (M := M) (M1 := M433) ((M.2.1 77 65).toInt).toNat (fun i z => (W_n W432 (by omega) rfl))
        have j_449 : QK M433 := QK_i (by unfold QK_c; rw [show ((M433.2.1 77 65).toInt).toNat = ((M.2.1 77 65).toInt).toNat by omega]; refine ⟨by omega, by omega, by omega, by omega⟩) (fun i z => by rw [(W_n W432 (by omega) rfl)]; exact q2.2.1 i (by omega)) (by rw [(W_n W432 (by omega) rfl)]; exact KN_f (fun a i z => (W_n W432 (by /-r77,69-/ omega) rfl)) q2.2.2)
        refine C_223 hX (dp1 hd (by decide)) hG434 (by omega) (by omega) (by omega) j_449 (l := (2 : Int32)) (fun M456 hG452 F451 p_453 p_454 p_455 => ?_)
        have F457 := FR.c F435 F451 tg_388
        have s_458 := p_454
        have s_459 : Wo M433 ((M433.2.1 77 65).toInt).toNat = Wo M ((M.2.1 77 65).toInt).toNat := by rw [show (M433.2.1 77 65) = (M.2.1 77 65) from (W_n W432 (by omega) rfl)]; exact (Wx_f (M := M) (M1 := M433) _ (fun i z => (W_n W432 (by omega) rfl))).1
        have b_460 := g_b hG452 (a := 77) (i := 59) (lo := 0) (hi := 40) rfl rfl
        have b_461 := g_b hG452 (a := 77) (i := 65) (lo := 0) (hi := 48) rfl rfl
        have b_462 := g_b hG452 (a := 77) (i := 66) (lo := 0) (hi := 40) rfl rfl
        have c_463 : M456.2.1 77 67 = (M.2.1 77 67) := (F_n F451 (show ¬ (77 = 77 ∧ (67 = 59 ∨ 67 = 65 ∨ 67 = 66) ∨ 112 ≤ 77 ∧ 77 ≤ 114 ∧ 40 ≤ 67 ∨ 77 = 116) by decide) c_443)
        have t_464 : (M456.2.1 77 67).toInt = (M.2.1 77 67).toInt := congrArg Int32.toInt c_463
        have c_465 : M456.2.1 77 68 = (M.2.1 77 68) := (F_n F451 (show ¬ (77 = 77 ∧ (68 = 59 ∨ 68 = 65 ∨ 68 = 66) ∨ 112 ≤ 77 ∧ 77 ≤ 114 ∧ 40 ≤ 68 ∨ 77 = 116) by decide) c_445)
        have t_466 : (M456.2.1 77 68).toInt = (M.2.1 77 68).toInt := congrArg Int32.toInt c_465
        have c_467 : M456.2.1 77 69 = v430 := (F_n F451 (show ¬ (77 = 77 ∧ (69 = 59 ∨ 69 = 65 ∨ 69 = 66) ∨ 112 ≤ 77 ∧ 77 ≤ 114 ∧ 40 ≤ 69 ∨ 77 = 116) by decide) c_447)
        have t_468 : (M456.2.1 77 69).toInt = v430.toInt := congrArg Int32.toInt c_467
        have s_469 := QK_e p_453
        have s_470 := Wx_b M456 ((M456.2.1 77 65).toInt).toNat
        refine to_an (pc := 51) rw_226_51 rfl (s_gR (pc := 52) rw_226_52 hG452 rfl (v := 115) rfl (to_an (pc := 55) rw_226_55 rfl (tt_gI (pc := 56) rw_226_56 (g_o hG452 rfl) (v := (M456.2.1 77 65)) rfl (to_in (pc := 59) rw_226_59 rfl (s_ias (pc := 60) rw_226_60 hG452 rfl (n := 64) rfl (A := (M456.2.1 77 65).toInt) rfl (by omega) (by omega) (fun M472 W471 => ?_))))))
        have hG473 := g_w hG452 W471 (A := 3) rfl (lo := 0) (hi := 4) rfl rfl (by omega) (by decide)
        have F474 := FR.w F457 W471 (show 115 = 77 ∧ (((M456.2.1 77 65).toInt).toNat = 4 ∨ ((M456.2.1 77 65).toInt).toNat = 5 ∨ 7 ≤ ((M456.2.1 77 65).toInt).toNat ∧ ((M456.2.1 77 65).toInt).toNat ≤ 10) ∨ 115 = 77 ∧ (((M456.2.1 77 65).toInt).toNat = 59 ∨ 65 ≤ ((M456.2.1 77 65).toInt).toNat ∧ ((M456.2.1 77 65).toInt).toNat ≤ 69) ∨ 112 ≤ 115 ∧ 115 ≤ 114 ∧ 40 ≤ ((M456.2.1 77 65).toInt).toNat ∨ 115 = 115 ∨ 115 = 116 by omega)
        refine to_an (pc := 61) rw_226_61 rfl (to_dupr (pc := 62) rw_226_62 ?_)
        have c_475 : M472.2.1 77 65 = (M456.2.1 77 65) := (W_n W471 (fun z => absurd z.1 (by decide)) rfl)
        refine tt_gI (pc := 63) rw_226_63 (g_o hG473 rfl) (v := (M456.2.1 77 65)) c_475 (to_c (pc := 66) rw_226_66 (x := (1 : Int32)) rfl rfl (s_add (pc := 67) rw_226_67 (A := (M456.2.1 77 65).toInt) (B := 1) rfl rfl (by omega) (fun v476 e477 => s_pI (pc := 68) rw_226_68 hG473 rfl (fun M479 W478 => ?_))))
        have hG480 := g_w hG473 W478 (A := v476.toInt) rfl (lo := 0) (hi := 48) rfl rfl (by omega) (by decide)
        have F481 := FR.w F474 W478 (show 77 = 77 ∧ (65 = 4 ∨ 65 = 5 ∨ 7 ≤ 65 ∧ 65 ≤ 10) ∨ 77 = 77 ∧ (65 = 59 ∨ 65 ≤ 65 ∧ 65 ≤ 69) ∨ 112 ≤ 77 ∧ 77 ≤ 114 ∧ 40 ≤ 65 ∨ 77 = 115 ∨ 77 = 116 by decide)
        refine to_an (pc := 71) rw_226_71 rfl (to_c (pc := 72) rw_226_72 (x := (0 : Int32)) rfl rfl (s_pI (pc := 73) rw_226_73 hG480 rfl (fun M483 W482 => ?_)))
        have hG484 := g_w hG480 W482 (A := 0) rfl (lo := 0) (hi := 1) rfl rfl (by omega) (by decide)
        have F485 := FR.w F481 W482 (show 77 = 77 ∧ (68 = 4 ∨ 68 = 5 ∨ 7 ≤ 68 ∧ 68 ≤ 10) ∨ 77 = 77 ∧ (68 = 59 ∨ 65 ≤ 68 ∧ 68 ≤ 69) ∨ 112 ≤ 77 ∧ 77 ≤ 114 ∧ 40 ≤ 68 ∨ 77 = 115 ∨ 77 = 116 by decide)
        refine to_an (pc := 76) rw_226_76 rfl (s_v (pc := 77) rw_226_77 (dp0 hd (by decide)) (ls0 := [.ref 77]) rfl (Nat.le_of_ble_eq_true rfl) (Nat.le_of_ble_eq_true rfl) rfl (to_rc rfl rfl rfl (g_o hG484 rfl)) rfl ?_)
        have c_486 : M483.2.1 77 7 = (M.2.1 77 7) := (W_n W482 (by decide) (W_n W478 (by decide) (W_n W471 (fun z => absurd z.1 (by decide)) (F_n F451 (show ¬ (77 = 77 ∧ (7 = 59 ∨ 7 = 65 ∨ 7 = 66) ∨ 112 ≤ 77 ∧ 77 ≤ 114 ∧ 40 ≤ 7 ∨ 77 = 116) by decide) (W_n W432 (by decide) rfl)))))
        have t_487 : (M483.2.1 77 7).toInt = (M.2.1 77 7).toInt := congrArg Int32.toInt c_486
        have c_488 : M483.2.1 77 6 = (M.2.1 77 6) := (W_n W482 (by decide) (W_n W478 (by decide) (W_n W471 (fun z => absurd z.1 (by decide)) (F_n F451 (show ¬ (77 = 77 ∧ (6 = 59 ∨ 6 = 65 ∨ 6 = 66) ∨ 112 ≤ 77 ∧ 77 ≤ 114 ∧ 40 ≤ 6 ∨ 77 = 116) by decide) (W_n W432 (by decide) rfl)))))
        have t_489 : (M483.2.1 77 6).toInt = (M.2.1 77 6).toInt := congrArg Int32.toInt c_488
        refine C_156 hX (dp1 hd (by decide)) hG484 (by omega)  (fun M495 hG491 F490 p_492 p_493 p_494 => ?_)
        have F496 := FR.c F485 F490 tg_389
        have b_497 := g_b hG491 (a := 77) (i := 7) (lo := 0) (hi := 500) rfl rfl
        have c_498 : M495.2.1 77 6 = (M.2.1 77 6) := (F_n F490 (show ¬ (77 = 77 ∧ 7 ≤ 6 ∧ 6 ≤ 10) by decide) c_488)
        have t_499 : (M495.2.1 77 6).toInt = (M.2.1 77 6).toInt := congrArg Int32.toInt c_498
        have b_500 := g_b hG491 (a := 77) (i := 8) (lo := 0) (hi := 5) rfl rfl
        refine to_c (pc := 80) rw_226_80 (x := (1 : Int32)) rfl rfl (s_r1 (pc := 81) rw_226_81 (A := 1) rfl (by decide) ?_)
        have k_501 : (1 : Int32).toInt = 1 := rfl
        have c_502 : M495.2.1 77 59 = (M456.2.1 77 59) := (F_n F490 (show ¬ (77 = 77 ∧ 7 ≤ 59 ∧ 59 ≤ 10) by decide) (W_n W482 (by decide) (W_n W478 (by decide) (W_n W471 (fun z => absurd z.1 (by decide)) rfl))))
        have t_503 : (M495.2.1 77 59).toInt = (M456.2.1 77 59).toInt := congrArg Int32.toInt c_502
        have c_504 : M495.2.1 77 65 = v476 := (F_n F490 (show ¬ (77 = 77 ∧ 7 ≤ 65 ∧ 65 ≤ 10) by decide) (W_n W482 (by decide) (W_e W478)))
        have t_505 : (M495.2.1 77 65).toInt = v476.toInt := congrArg Int32.toInt c_504
        have c_506 : M495.2.1 77 66 = (M456.2.1 77 66) := (F_n F490 (show ¬ (77 = 77 ∧ 7 ≤ 66 ∧ 66 ≤ 10) by decide) (W_n W482 (by decide) (W_n W478 (by decide) (W_n W471 (fun z => absurd z.1 (by decide)) rfl))))
        have t_507 : (M495.2.1 77 66).toInt = (M456.2.1 77 66).toInt := congrArg Int32.toInt c_506
        have c_508 : M495.2.1 77 67 = (M.2.1 77 67) := (F_n F490 (show ¬ (77 = 77 ∧ 7 ≤ 67 ∧ 67 ≤ 10) by decide) (W_n W482 (by decide) (W_n W478 (by decide) (W_n W471 (fun z => absurd z.1 (by decide)) c_463))))
        have t_509 : (M495.2.1 77 67).toInt = (M.2.1 77 67).toInt := congrArg Int32.toInt c_508
        have c_510 : M495.2.1 77 68 = (0 : Int32) := (F_n F490 (show ¬ (77 = 77 ∧ 7 ≤ 68 ∧ 68 ≤ 10) by decide) (W_e W482))
        have k_511 : (0 : Int32).toInt = 0 := rfl
        have t_512 : (M495.2.1 77 68).toInt = (0 : Int32).toInt := congrArg Int32.toInt c_510
        have c_513 : M495.2.1 77 69 = v430 := (F_n F490 (show ¬ (77 = 77 ∧ 7 ≤ 69 ∧ 69 ≤ 10) by decide) (W_n W482 (by decide) (W_n W478 (by decide) (W_n W471 (fun z => absurd z.1 (by decide)) c_467))))
        have t_514 : (M495.2.1 77 69).toInt = v430.toInt := congrArg Int32.toInt c_513
        have k_516 : (3 : Int32).toInt = 3 := rfl
        have s_517 := Wx_f (M := M456) (M1 := M495) ((M456.2.1 77 65).toInt).toNat (fun i z => (F_n F490 (show ¬ (115 = 77 ∧ 7 ≤ i ∧ i ≤ 10) by omega) (W_n W482 (by omega) (W_n W478 (by omega) (W_n W471 (by omega) rfl)))))
        have s_518 : (M495.2.1 115 ((M456.2.1 77 65).toInt).toNat).toInt = (3 : Int32).toInt := by rw [show ((M456.2.1 77 65).toInt).toNat = ((M456.2.1 77 65).toInt).toNat by omega]; exact congrArg Int32.toInt (F_n F490 (show ¬ (115 = 77 ∧ 7 ≤ (((M456.2.1 77 65).toInt).toNat) ∧ (((M456.2.1 77 65).toInt).toNat) ≤ 10) by omega) (W_n W482 (by omega) (W_n W478 (by omega) (W_e W471))))
        have s_519 := Wx_s M495 ((M456.2.1 77 65).toInt).toNat
        have j_515 : QK M495 := QK_i (by unfold QK_c; rw [show ((M495.2.1 77 65).toInt).toNat = ((M456.2.1 77 65).toInt).toNat + 1 by omega]; refine ⟨by omega, by omega, by omega, by omega⟩) (fun i z => by
            by_cases ei : i = ((M456.2.1 77 65).toInt).toNat
            · rw [ei]; omega
            · rw [(F_n F490 (show ¬ (115 = 77 ∧ 7 ≤ i ∧ i ≤ 10) by omega) (W_n W482 (by omega) (W_n W478 (by omega) (W_n W471 (by omega) rfl))))]; exact p_453.2.1 i (by omega)) (by rw [(F_n F490 (show ¬ (77 = 77 ∧ 7 ≤ 59 ∧ 59 ≤ 10) by decide) (W_n W482 (by omega) (W_n W478 (by omega) (W_n W471 (by omega) rfl))))]; exact KN_f (fun a i z => (F_n F490 (show ¬ (a = 77 ∧ 7 ≤ i ∧ i ≤ 10) by omega) (W_n W482 (by /-r77,68-/ omega) (W_n W478 (by /-r77,65-/ omega) (W_n W471 (by /-r115-/ omega) rfl))))) p_453.2.2)
        have c_520 : M495.2.1 77 4 = (M.2.1 77 4) := (F_n F490 (show ¬ (77 = 77 ∧ 7 ≤ 4 ∧ 4 ≤ 10) by decide) (W_n W482 (by decide) (W_n W478 (by decide) (W_n W471 (fun z => absurd z.1 (by decide)) (F_n F451 (show ¬ (77 = 77 ∧ (4 = 59 ∨ 4 = 65 ∨ 4 = 66) ∨ 112 ≤ 77 ∧ 77 ≤ 114 ∧ 40 ≤ 4 ∨ 77 = 116) by decide) (W_n W432 (by decide) rfl))))))
        have t_521 : (M495.2.1 77 4).toInt = (M.2.1 77 4).toInt := congrArg Int32.toInt c_520
        have c_522 : M495.2.1 77 5 = (M.2.1 77 5) := (F_n F490 (show ¬ (77 = 77 ∧ 7 ≤ 5 ∧ 5 ≤ 10) by decide) (W_n W482 (by decide) (W_n W478 (by decide) (W_n W471 (fun z => absurd z.1 (by decide)) (F_n F451 (show ¬ (77 = 77 ∧ (5 = 59 ∨ 5 = 65 ∨ 5 = 66) ∨ 112 ≤ 77 ∧ 77 ≤ 114 ∧ 40 ≤ 5 ∨ 77 = 116) by decide) (W_n W432 (by decide) rfl))))))
        have t_523 : (M495.2.1 77 5).toInt = (M.2.1 77 5).toInt := congrArg Int32.toInt c_522
        exact h (1 : Int32) M495 hG491 F496 (by decide) (by decide) (by omega) (by omega) (by omega) (by omega) (fun _ => j_515) (by omega)
      · refine to_an (pc := 9) rw_224_9 rfl (to_c (pc := 10) rw_224_10 (x := (2 : Int32)) rfl rfl (s_v (pc := 11) rw_224_11 (dp1 hd (by decide)) (ls0 := [.ref 77, .int (2 : Int32)]) rfl (Nat.le_of_ble_eq_true rfl) (Nat.le_of_ble_eq_true rfl) rfl (to_rc rfl rfl rfl (g_o hG rfl)) rfl (to_an (pc := 0) rw_152_0 rfl (to_in (pc := 1) rw_152_1 rfl (s_pI (pc := 2) rw_152_2 hG rfl (fun M525 W524 => ?_))))))
        have hG526 := g_wf hG W524 rfl rfl (by decide)
        have F527 := FR.w F0 W524 (show 77 = 77 ∧ (4 = 4 ∨ 4 = 5 ∨ 7 ≤ 4 ∧ 4 ≤ 10) ∨ 77 = 77 ∧ (4 = 59 ∨ 65 ≤ 4 ∧ 4 ≤ 69) ∨ 112 ≤ 77 ∧ 77 ≤ 114 ∧ 40 ≤ 4 ∨ 77 = 115 ∨ 77 = 116 by decide)
        refine to_an (pc := 5) rw_152_5 rfl (to_an (pc := 6) rw_152_6 rfl ?_)
        have c_528 : M525.2.1 77 10 = (M.2.1 77 10) := (W_n W524 (by decide) rfl)
        have b_529 := g_b hG (a := 77) (i := 10) (lo := 0) (hi := 500) rfl rfl
        refine tt_gI (pc := 7) rw_152_7 (g_o hG526 rfl) (v := (M.2.1 77 10)) c_528 (s_pI (pc := 10) rw_152_10 hG526 rfl (fun M531 W530 => ?_))
        have hG532 := g_wf hG526 W530 rfl rfl (by decide)
        have F533 := FR.w F527 W530 (show 77 = 77 ∧ (5 = 4 ∨ 5 = 5 ∨ 7 ≤ 5 ∧ 5 ≤ 10) ∨ 77 = 77 ∧ (5 = 59 ∨ 65 ≤ 5 ∧ 5 ≤ 69) ∨ 112 ≤ 77 ∧ 77 ≤ 114 ∧ 40 ≤ 5 ∨ 77 = 115 ∨ 77 = 116 by decide)
        refine to_c (pc := 13) rw_152_13 (x := (0 : Int32)) rfl rfl (s_r1 (pc := 14) rw_152_14 (A := 0) rfl (by decide) (s_r1 (pc := 14) rw_224_14 (A := 0) rfl (by decide) (b_ine_f (pc := 37) rw_226_37 (A := 0) rfl (by decide) (to_c (pc := 40) rw_226_40 (x := (0 : Int32)) rfl rfl (s_r1 (pc := 41) rw_226_41 (A := 0) rfl (by decide) ?_)))))
        have k_534 : (0 : Int32).toInt = 0 := rfl
        have c_535 : M531.2.1 77 7 = (M.2.1 77 7) := (W_n W530 (by decide) (W_n W524 (by decide) rfl))
        have t_536 : (M531.2.1 77 7).toInt = (M.2.1 77 7).toInt := congrArg Int32.toInt c_535
        have c_537 : M531.2.1 77 6 = (M.2.1 77 6) := (W_n W530 (by decide) (W_n W524 (by decide) rfl))
        have t_538 : (M531.2.1 77 6).toInt = (M.2.1 77 6).toInt := congrArg Int32.toInt c_537
        have c_539 : M531.2.1 77 8 = (M.2.1 77 8) := (W_n W530 (by decide) (W_n W524 (by decide) rfl))
        have t_540 : (M531.2.1 77 8).toInt = (M.2.1 77 8).toInt := congrArg Int32.toInt c_539
        have c_541 : M531.2.1 77 4 = (2 : Int32) := (W_n W530 (by decide) (W_e W524))
        have k_542 : (2 : Int32).toInt = 2 := rfl
        have t_543 : (M531.2.1 77 4).toInt = (2 : Int32).toInt := congrArg Int32.toInt c_541
        have c_544 : M531.2.1 77 5 = (M.2.1 77 10) := (W_e W530)
        have t_545 : (M531.2.1 77 5).toInt = (M.2.1 77 10).toInt := congrArg Int32.toInt c_544
        exact h (0 : Int32) M531 hG532 F533 (by decide) (by decide) (by omega) (by omega) (by omega) (by omega) (fun z => absurd z (by omega)) (by omega)
