theorem tg_309 : ∀ a i : Nat, (a < 0) → (a = 77 ∧ (i = 4 ∨ i = 5 ∨ 7 ≤ i ∧ i ≤ 10) ∨ a = 77 ∧ (i = 59 ∨ 65 ≤ i ∧ i ≤ 69) ∨ 112 ≤ a ∧ a ≤ 114 ∧ 40 ≤ i ∨ a = 115 ∨ a = 116) := fun a i z => by omega
theorem tg_310 : ∀ a i : Nat, (a = 77 ∧ (i = 59 ∨ i = 66) ∨ 112 ≤ a ∧ a ≤ 114 ∧ 40 ≤ i ∨ a = 116) → (a = 77 ∧ (i = 4 ∨ i = 5 ∨ 7 ≤ i ∧ i ≤ 10) ∨ a = 77 ∧ (i = 59 ∨ 65 ≤ i ∧ i ≤ 69) ∨ 112 ≤ a ∧ a ≤ 114 ∧ 40 ≤ i ∨ a = 115 ∨ a = 116) := fun a i z => by omega
theorem tg_311 : ∀ a i : Nat, (81 ≤ a ∧ a ≤ 84) → ¬ (a = 77 ∧ i = 69) := fun a i z => by omega
theorem tg_312 : ∀ a i : Nat, (81 ≤ a ∧ a ≤ 84) → ¬ (a = 77 ∧ i = 68) := fun a i z => by omega
set_option maxRecDepth 4000 in
set_option maxHeartbeats 0 in
theorem C_225 {X : mm_X} {d : Nat} {M : mm_M} {Q : Option Value → mm_M → Prop} (hX : g_X X) (hd : 2 ≤ d) (hG : g_G M) (q1 : (M.2.1 77 7).toInt ≤ (M.2.1 77 6).toInt) (q2 : QK M) (q3 : FA M) (q4 : (M.2.1 77 68).toInt = 0) (h : ∀ (r : Int32) (M1 : mm_M), g_G M1 → FR md_qr M M1 → (0 ≤ r.toInt) → (r.toInt ≤ 1) → ((M1.2.1 77 7).toInt ≤ (M1.2.1 77 6).toInt) → ((M.2.1 77 7).toInt ≤ (M1.2.1 77 7).toInt) → (r.toInt = 1 → (M1.2.1 77 8).toInt = 0 ∨ (M.2.1 77 7).toInt < (M1.2.1 77 7).toInt) → (r.toInt = 1 → ¬ (M.2.1 77 8).toInt = 0) → (r.toInt = 1 → QK M1) → Q (some (.int r)) M1) : mm_T X d 224 0 [.ref 77, .null, .null, .null, .null, .null] [] M Q := by
  have F0 : FR md_qr M M := FR.rf
  have b_1 := g_b hG (a := 77) (i := 7) (lo := 0) (hi := 500) rfl rfl
  have b_2 := g_b hG (a := 77) (i := 6) (lo := 0) (hi := 500) rfl rfl
  have b_3 := g_b hG (a := 77) (i := 68) (lo := 0) (hi := 1) rfl rfl
  have b_4 := g_b hG (a := 77) (i := 59) (lo := 0) (hi := 40) rfl rfl
  have b_5 := g_b hG (a := 77) (i := 65) (lo := 0) (hi := 48) rfl rfl
  have b_6 := g_b hG (a := 77) (i := 66) (lo := 0) (hi := 40) rfl rfl
  have b_7 := g_b hG (a := 77) (i := 67) (lo := 0) (hi := 8) rfl rfl
  have b_8 := g_b hG (a := 77) (i := 69) (lo := 0) (hi := 40) rfl rfl
  have s_9 := QK_e q2
  have s_10 := Wx_b M ((M.2.1 77 65).toInt).toNat
  refine to_an (pc := 0) rw_225_0 rfl (to_c (pc := 1) rw_225_1 (x := (40 : Int32)) rfl rfl (s_v (pc := 3) rw_225_3 (dp0 hd (by decide)) (ls0 := [.ref 77, .int (40 : Int32)]) rfl (Nat.le_of_ble_eq_true rfl) (Nat.le_of_ble_eq_true rfl) rfl (to_rc rfl rfl rfl (g_o hG rfl)) rfl (to_an (pc := 0) rw_159_0 rfl ?_)))
  have b_11 := g_b hG (a := 77) (i := 8) (lo := 0) (hi := 5) rfl rfl
  refine tt_gI (pc := 1) rw_159_1 (g_o hG rfl) (v := (M.2.1 77 8)) rfl (to_c (pc := 4) rw_159_4 (x := (4 : Int32)) rfl rfl (b_cne (pc := 5) rw_159_5 (A := (M.2.1 77 8).toInt) (B := 4) rfl rfl (fun h12 => ?_) (fun h12 => ?_)))
  · refine to_c (pc := 20) rw_159_20 (x := (0 : Int32)) rfl rfl (s_r1 (pc := 21) rw_159_21 (A := 0) rfl (by decide) (b_ieq_t (pc := 6) rw_225_6 (A := 0) rfl (by decide) (to_an (pc := 60) rw_225_60 rfl (to_c (pc := 61) rw_225_61 (x := (14 : Int32)) rfl rfl (s_v (pc := 63) rw_225_63 (dp0 hd (by decide)) (ls0 := [.ref 77, .int (14 : Int32)]) rfl (Nat.le_of_ble_eq_true rfl) (Nat.le_of_ble_eq_true rfl) rfl (to_rc rfl rfl rfl (g_o hG rfl)) rfl (to_an (pc := 0) rw_158_0 rfl (tt_gI (pc := 1) rw_158_1 (g_o hG rfl) (v := (M.2.1 77 8)) rfl (to_c (pc := 4) rw_158_4 (x := (1 : Int32)) rfl rfl (b_cne (pc := 5) rw_158_5 (A := (M.2.1 77 8).toInt) (B := 1) rfl rfl (fun h13 => ?_) (fun h13 => ?_))))))))))
    · refine to_c (pc := 20) rw_158_20 (x := (0 : Int32)) rfl rfl (s_r1 (pc := 21) rw_158_21 (A := 0) rfl (by decide) (b_ieq_t (pc := 66) rw_225_66 (A := 0) rfl (by decide) (to_an (pc := 104) rw_225_104 rfl (tt_gI (pc := 105) rw_225_105 (g_o hG rfl) (v := (M.2.1 77 8)) rfl (to_c (pc := 108) rw_225_108 (x := (2 : Int32)) rfl rfl (b_ceq (pc := 109) rw_225_109 (A := (M.2.1 77 8).toInt) (B := 2) rfl rfl (fun h14 => ?_) (fun h14 => ?_)))))))
      · refine to_an (pc := 118) rw_225_118 rfl (s_v (pc := 119) rw_225_119 (dp0 hd (by decide)) (ls0 := [.ref 77]) rfl (Nat.le_of_ble_eq_true rfl) (Nat.le_of_ble_eq_true rfl) rfl (to_rc rfl rfl rfl (g_o hG rfl)) rfl (to_an (pc := 0) rw_224_0 rfl (tt_gI (pc := 1) rw_224_1 (g_o hG rfl) (v := (M.2.1 77 69)) rfl (to_c (pc := 4) rw_224_4 (x := (40 : Int32)) rfl rfl (b_cne (pc := 6) rw_224_6 (A := (M.2.1 77 69).toInt) (B := 40) rfl rfl (fun h15 => ?_) (fun h15 => ?_))))))
        · refine to_an (pc := 15) rw_224_15 rfl (to_dupr (pc := 16) rw_224_16 (tt_gI (pc := 17) rw_224_17 (g_o hG rfl) (v := (M.2.1 77 69)) rfl (to_c (pc := 20) rw_224_20 (x := (1 : Int32)) rfl rfl (s_add (pc := 21) rw_224_21 (A := (M.2.1 77 69).toInt) (B := 1) rfl rfl (by omega) (fun v16 e17 => s_pI (pc := 22) rw_224_22 hG rfl (fun M19 W18 => ?_))))))
          have hG20 := g_w hG W18 (A := v16.toInt) rfl (lo := 0) (hi := 40) rfl rfl (by omega) (by decide)
          have F21 := FR.w F0 W18 (show 77 = 77 ∧ (69 = 4 ∨ 69 = 5 ∨ 7 ≤ 69 ∧ 69 ≤ 10) ∨ 77 = 77 ∧ (69 = 59 ∨ 65 ≤ 69 ∧ 69 ≤ 69) ∨ 112 ≤ 77 ∧ 77 ≤ 114 ∧ 40 ≤ 69 ∨ 77 = 115 ∨ 77 = 116 by decide)
          refine to_c (pc := 25) rw_224_25 (x := (1 : Int32)) rfl rfl (s_r1 (pc := 26) rw_224_26 (A := 1) rfl (by decide) (b_ine_t (pc := 122) rw_225_122 (A := 1) rfl (by decide) (to_an (pc := 127) rw_225_127 rfl ?_)))
          have c_22 : M19.2.1 77 9 = (M.2.1 77 9) := (W_n W18 (by decide) rfl)
          refine tt_gI (pc := 128) rw_225_128 (g_o hG20 rfl) (v := (M.2.1 77 9)) c_22 (to_isn (pc := 131) rw_225_131 (ls2 := [.ref 77, .int (M.2.1 77 9), .null, .null, .null, .null]) rfl rfl (to_an (pc := 132) rw_225_132 rfl ?_))
          have c_23 : M19.2.1 77 10 = (M.2.1 77 10) := (W_n W18 (by decide) rfl)
          have b_24 := g_b hG (a := 77) (i := 10) (lo := 0) (hi := 500) rfl rfl
          refine tt_gI (pc := 133) rw_225_133 (g_o hG20 rfl) (v := (M.2.1 77 10)) c_23 (to_isn (pc := 136) rw_225_136 (ls2 := [.ref 77, .int (M.2.1 77 9), .int (M.2.1 77 10), .null, .null, .null]) rfl rfl (to_an (pc := 137) rw_225_137 rfl (s_v (pc := 138) rw_225_138 (dp0 hd (by decide)) (ls0 := [.ref 77]) rfl (Nat.le_of_ble_eq_true rfl) (Nat.le_of_ble_eq_true rfl) rfl (to_rc rfl rfl rfl (g_o hG20 rfl)) rfl ?_)))
          have c_25 : M19.2.1 77 7 = (M.2.1 77 7) := (W_n W18 (by decide) rfl)
          have t_26 : (M19.2.1 77 7).toInt = (M.2.1 77 7).toInt := congrArg Int32.toInt c_25
          have c_27 : M19.2.1 77 6 = (M.2.1 77 6) := (W_n W18 (by decide) rfl)
          have t_28 : (M19.2.1 77 6).toInt = (M.2.1 77 6).toInt := congrArg Int32.toInt c_27
          refine C_156 hX (dp1 hd (by decide)) hG20 (by omega)  (fun M34 hG30 F29 p_31 p_32 p_33 => ?_)
          have F35 := FR.c F21 F29 tg_308
          have b_36 := g_b hG30 (a := 77) (i := 7) (lo := 0) (hi := 500) rfl rfl
          have c_37 : M34.2.1 77 6 = (M.2.1 77 6) := (F_n F29 (show ¬ (77 = 77 ∧ 7 ≤ 6 ∧ 6 ≤ 10) by decide) c_27)
          have t_38 : (M34.2.1 77 6).toInt = (M.2.1 77 6).toInt := congrArg Int32.toInt c_37
          have b_39 := g_b hG30 (a := 77) (i := 8) (lo := 0) (hi := 5) rfl rfl
          refine to_an (pc := 141) rw_225_141 rfl (to_c (pc := 142) rw_225_142 (x := (61 : Int32)) rfl rfl (s_v (pc := 144) rw_225_144 (dp0 hd (by decide)) (ls0 := [.ref 77, .int (61 : Int32)]) rfl (Nat.le_of_ble_eq_true rfl) (Nat.le_of_ble_eq_true rfl) rfl (to_rc rfl rfl rfl (g_o hG30 rfl)) rfl (to_an (pc := 0) rw_159_0 rfl (tt_gI (pc := 1) rw_159_1 (g_o hG30 rfl) (v := (M34.2.1 77 8)) rfl (to_c (pc := 4) rw_159_4 (x := (4 : Int32)) rfl rfl (b_cne (pc := 5) rw_159_5 (A := (M34.2.1 77 8).toInt) (B := 4) rfl rfl (fun h40 => ?_) (fun h40 => ?_)))))))
          · refine to_c (pc := 20) rw_159_20 (x := (0 : Int32)) rfl rfl (s_r1 (pc := 21) rw_159_21 (A := 0) rfl (by decide) (to_isn (pc := 147) rw_225_147 (ls2 := [.ref 77, .int (M.2.1 77 9), .int (M.2.1 77 10), .int (0 : Int32), .null, .null]) rfl rfl (to_an (pc := 148) rw_225_148 rfl (to_in (pc := 149) rw_225_149 rfl (s_v (pc := 150) rw_225_150 (dp0 hd (by decide)) (ls0 := [.ref 77, .int (M.2.1 77 9), .null]) rfl (Nat.le_of_ble_eq_true rfl) (Nat.le_of_ble_eq_true rfl) rfl (to_rc rfl rfl rfl (g_o hG30 rfl)) rfl ?_)))))
            have c_41 : M34.2.1 77 12 = (M.2.1 77 12) := (F_n F29 (show ¬ (77 = 77 ∧ 7 ≤ 12 ∧ 12 ≤ 10) by decide) (W_n W18 (by decide) rfl))
            have b_42 := g_b hG (a := 77) (i := 12) (lo := 0) (hi := 8) rfl rfl
            have t_43 : (M34.2.1 77 12).toInt = (M.2.1 77 12).toInt := congrArg Int32.toInt c_41
            refine C_175 hX (dp1 hd (by decide)) hG30 (n := (M.2.1 77 9)) (fun r44 M50 hG46 F45 p_47 p_48 p_49 => ?_)
            have F51 := FR.c F35 F45 tg_309
            refine to_is (pc := 153) rw_225_153 (ls2 := [.ref 77, .int (M.2.1 77 9), .int (M.2.1 77 10), .int (0 : Int32), .int r44, .null]) rfl rfl (to_an (pc := 155) rw_225_155 rfl (to_in (pc := 156) rw_225_156 rfl (s_v (pc := 157) rw_225_157 (dp0 hd (by decide)) (ls0 := [.ref 77, .int (M.2.1 77 9), .null]) rfl (Nat.le_of_ble_eq_true rfl) (Nat.le_of_ble_eq_true rfl) rfl (to_rc rfl rfl rfl (g_o hG46 rfl)) rfl ?_)))
            have c_52 : M50.2.1 77 13 = (M.2.1 77 13) := (F_n F45 (show ¬ (77 < 0) by decide) (F_n F29 (show ¬ (77 = 77 ∧ 7 ≤ 13 ∧ 13 ≤ 10) by decide) (W_n W18 (by decide) rfl)))
            have b_53 := g_b hG (a := 77) (i := 13) (lo := 0) (hi := 12) rfl rfl
            have t_54 : (M50.2.1 77 13).toInt = (M.2.1 77 13).toInt := congrArg Int32.toInt c_52
            refine C_176 hX (dp1 hd (by decide)) hG46 (n := (M.2.1 77 9)) (fun r55 M61 hG57 F56 p_58 p_59 p_60 => ?_)
            have F62 := FR.c F51 F56 tg_309
            refine to_is (pc := 160) rw_225_160 (ls2 := [.ref 77, .int (M.2.1 77 9), .int (M.2.1 77 10), .int (0 : Int32), .int r44, .int r55]) rfl rfl (to_in (pc := 162) rw_225_162 rfl (b_ieq_t (pc := 163) rw_225_163 (A := 0) rfl (by decide) (to_i (pc := 178) rw_225_178 rfl (b_ige (pc := 180) rw_225_180 (A := r55.toInt) rfl (fun h63 => ?_) (fun h63 => ?_)))))
            · refine to_an (pc := 194) rw_225_194 rfl (to_c (pc := 195) rw_225_195 (x := (1 : Int32)) rfl rfl (s_pI (pc := 196) rw_225_196 hG57 rfl (fun M65 W64 => ?_)))
              have hG66 := g_w hG57 W64 (A := 1) rfl (lo := 0) (hi := 1) rfl rfl (by omega) (by decide)
              have F67 := FR.w F62 W64 (show 77 = 77 ∧ (68 = 4 ∨ 68 = 5 ∨ 7 ≤ 68 ∧ 68 ≤ 10) ∨ 77 = 77 ∧ (68 = 59 ∨ 65 ≤ 68 ∧ 68 ≤ 69) ∨ 112 ≤ 77 ∧ 77 ≤ 114 ∧ 40 ≤ 68 ∨ 77 = 115 ∨ 77 = 116 by decide)
              refine to_in (pc := 199) rw_225_199 rfl (b_ine_f (pc := 200) rw_225_200 (A := 0) rfl (by decide) (to_an (pc := 203) rw_225_203 rfl (to_c (pc := 204) rw_225_204 (x := (1 : Int32)) rfl rfl (to_i (pc := 205) rw_225_205 rfl (to_c (pc := 207) rw_225_207 (x := (0 : Int32)) rfl rfl (s_v (pc := 208) rw_225_208 (dp0 hd (by decide)) (ls0 := [.ref 77, .int (1 : Int32), .int r55, .int (0 : Int32)]) rfl (Nat.le_of_ble_eq_true rfl) (Nat.le_of_ble_eq_true rfl) rfl (to_rc rfl rfl rfl (g_o hG66 rfl)) rfl ?_))))))
              have k_68 : (1 : Int32).toInt = 1 := rfl
              have k_69 : (0 : Int32).toInt = 0 := rfl
              have c_70 : M65.2.1 77 59 = (M.2.1 77 59) := (W_n W64 (by decide) (F_n F56 (show ¬ (77 < 0) by decide) (F_n F45 (show ¬ (77 < 0) by decide) (F_n F29 (show ¬ (77 = 77 ∧ 7 ≤ 59 ∧ 59 ≤ 10) by decide) (W_n W18 (by decide) rfl)))))
              have t_71 : (M65.2.1 77 59).toInt = (M.2.1 77 59).toInt := congrArg Int32.toInt c_70
              have c_72 : M65.2.1 77 66 = (M.2.1 77 66) := (W_n W64 (by decide) (F_n F56 (show ¬ (77 < 0) by decide) (F_n F45 (show ¬ (77 < 0) by decide) (F_n F29 (show ¬ (77 = 77 ∧ 7 ≤ 66 ∧ 66 ≤ 10) by decide) (W_n W18 (by decide) rfl)))))
              have t_73 : (M65.2.1 77 66).toInt = (M.2.1 77 66).toInt := congrArg Int32.toInt c_72
              refine C_221 hX (dp1 hd (by decide)) hG66 (by omega) (by omega) (by omega) (by omega) (by omega) (by omega) (by rw [(W_n W64 (by omega) (F_n F56 (show ¬ (77 < 0) by decide) (F_n F45 (show ¬ (77 < 0) by decide) (F_n F29 (show ¬ (77 = 77 ∧ 7 ≤ 59 ∧ 59 ≤ 10) by decide) (W_n W18 (by omega) rfl)))))]; exact KN_f (fun a i z => (W_n W64 (by /-r77,68-/ omega) (F_n F56 (show ¬ (a < 0) by omega) (F_n F45 (show ¬ (a < 0) by omega) (F_n F29 (show ¬ (a = 77 ∧ 7 ≤ i ∧ i ≤ 10) by omega) (W_n W18 (by /-r77,69-/ omega) rfl)))))) q2.2.2) (by omega) (by omega) (by omega) (by omega) (k := (1 : Int32)) (p := r55) (o := (0 : Int32)) (fun M79 hG75 F74 p_76 p_77 p_78 => ?_)
              have F80 := FR.c F67 F74 tg_310
              have b_81 := g_b hG75 (a := 77) (i := 59) (lo := 0) (hi := 40) rfl rfl
              have b_82 := g_b hG75 (a := 77) (i := 66) (lo := 0) (hi := 40) rfl rfl
              refine to_c (pc := 211) rw_225_211 (x := (1 : Int32)) rfl rfl (s_r1 (pc := 212) rw_225_212 (A := 1) rfl (by decide) ?_)
              have c_83 : M79.2.1 77 7 = (M34.2.1 77 7) := (F_n F74 (show ¬ (77 = 77 ∧ (7 = 59 ∨ 7 = 66) ∨ 112 ≤ 77 ∧ 77 ≤ 114 ∧ 40 ≤ 7 ∨ 77 = 116) by decide) (W_n W64 (by decide) (F_n F56 (show ¬ (77 < 0) by decide) (F_n F45 (show ¬ (77 < 0) by decide) rfl))))
              have t_84 : (M79.2.1 77 7).toInt = (M34.2.1 77 7).toInt := congrArg Int32.toInt c_83
              have c_85 : M79.2.1 77 6 = (M.2.1 77 6) := (F_n F74 (show ¬ (77 = 77 ∧ (6 = 59 ∨ 6 = 66) ∨ 112 ≤ 77 ∧ 77 ≤ 114 ∧ 40 ≤ 6 ∨ 77 = 116) by decide) (W_n W64 (by decide) (F_n F56 (show ¬ (77 < 0) by decide) (F_n F45 (show ¬ (77 < 0) by decide) c_37))))
              have t_86 : (M79.2.1 77 6).toInt = (M.2.1 77 6).toInt := congrArg Int32.toInt c_85
              have c_87 : M79.2.1 77 8 = (M34.2.1 77 8) := (F_n F74 (show ¬ (77 = 77 ∧ (8 = 59 ∨ 8 = 66) ∨ 112 ≤ 77 ∧ 77 ≤ 114 ∧ 40 ≤ 8 ∨ 77 = 116) by decide) (W_n W64 (by decide) (F_n F56 (show ¬ (77 < 0) by decide) (F_n F45 (show ¬ (77 < 0) by decide) rfl))))
              have t_88 : (M79.2.1 77 8).toInt = (M34.2.1 77 8).toInt := congrArg Int32.toInt c_87
              have c_89 : M79.2.1 77 65 = (M.2.1 77 65) := (F_n F74 (show ¬ (77 = 77 ∧ (65 = 59 ∨ 65 = 66) ∨ 112 ≤ 77 ∧ 77 ≤ 114 ∧ 40 ≤ 65 ∨ 77 = 116) by decide) (W_n W64 (by decide) (F_n F56 (show ¬ (77 < 0) by decide) (F_n F45 (show ¬ (77 < 0) by decide) (F_n F29 (show ¬ (77 = 77 ∧ 7 ≤ 65 ∧ 65 ≤ 10) by decide) (W_n W18 (by decide) rfl))))))
              have t_90 : (M79.2.1 77 65).toInt = (M.2.1 77 65).toInt := congrArg Int32.toInt c_89
              have c_91 : M79.2.1 77 67 = (M.2.1 77 67) := (F_n F74 (show ¬ (77 = 77 ∧ (67 = 59 ∨ 67 = 66) ∨ 112 ≤ 77 ∧ 77 ≤ 114 ∧ 40 ≤ 67 ∨ 77 = 116) by decide) (W_n W64 (by decide) (F_n F56 (show ¬ (77 < 0) by decide) (F_n F45 (show ¬ (77 < 0) by decide) (F_n F29 (show ¬ (77 = 77 ∧ 7 ≤ 67 ∧ 67 ≤ 10) by decide) (W_n W18 (by decide) rfl))))))
              have t_92 : (M79.2.1 77 67).toInt = (M.2.1 77 67).toInt := congrArg Int32.toInt c_91
              have c_93 : M79.2.1 77 68 = (1 : Int32) := (F_n F74 (show ¬ (77 = 77 ∧ (68 = 59 ∨ 68 = 66) ∨ 112 ≤ 77 ∧ 77 ≤ 114 ∧ 40 ≤ 68 ∨ 77 = 116) by decide) (W_e W64))
              have t_94 : (M79.2.1 77 68).toInt = (1 : Int32).toInt := congrArg Int32.toInt c_93
              have c_95 : M79.2.1 77 69 = v16 := (F_n F74 (show ¬ (77 = 77 ∧ (69 = 59 ∨ 69 = 66) ∨ 112 ≤ 77 ∧ 77 ≤ 114 ∧ 40 ≤ 69 ∨ 77 = 116) by decide) (W_n W64 (by decide) (F_n F56 (show ¬ (77 < 0) by decide) (F_n F45 (show ¬ (77 < 0) by decide) (F_n F29 (show ¬ (77 = 77 ∧ 7 ≤ 69 ∧ 69 ≤ 10) by decide) (W_e W18))))))
              have t_96 : (M79.2.1 77 69).toInt = v16.toInt := congrArg Int32.toInt c_95
              have s_98 := Wx_f (M := M) (M1 := M79) ((M.2.1 77 65).toInt).toNat (fun i z => (F_n F74 (show ¬ (115 = 77 ∧ (i = 59 ∨ i = 66) ∨ 112 ≤ 115 ∧ 115 ≤ 114 ∧ 40 ≤ i ∨ 115 = 116) by omega) (W_n W64 (by omega) (F_n F56 (show ¬ (115 < 0) by decide) (F_n F45 (show ¬ (115 < 0) by decide) (F_n F29 (show ¬ (115 = 77 ∧ 7 ≤ i ∧ i ≤ 10) by omega) (W_n W18 (by omega) rfl)))))))
              have j_97 : QK M79 := QK_i (by unfold QK_c; rw [show ((M79.2.1 77 65).toInt).toNat = ((M.2.1 77 65).toInt).toNat by omega]; refine ⟨by omega, by omega, by omega, by omega⟩) (fun i z => by rw [(F_n F74 (show ¬ (115 = 77 ∧ (i = 59 ∨ i = 66) ∨ 112 ≤ 115 ∧ 115 ≤ 114 ∧ 40 ≤ i ∨ 115 = 116) by omega) (W_n W64 (by omega) (F_n F56 (show ¬ (115 < 0) by decide) (F_n F45 (show ¬ (115 < 0) by decide) (F_n F29 (show ¬ (115 = 77 ∧ 7 ≤ i ∧ i ≤ 10) by omega) (W_n W18 (by omega) rfl))))))]; exact q2.2.1 i (by omega)) p_78
              exact h (1 : Int32) M79 hG75 F80 (by decide) (by decide) (by omega) (by omega) (by omega) (by omega) (fun _ => j_97)
            · refine to_an (pc := 183) rw_225_183 rfl (to_in (pc := 184) rw_225_184 rfl (s_pI (pc := 185) rw_225_185 hG57 rfl (fun M100 W99 => ?_)))
              have hG101 := g_w hG57 W99 (A := (M.2.1 77 10).toInt) rfl (lo := 0) (hi := 500) rfl rfl (by omega) (by decide)
              have F102 := FR.w F62 W99 (show 77 = 77 ∧ (10 = 4 ∨ 10 = 5 ∨ 7 ≤ 10 ∧ 10 ≤ 10) ∨ 77 = 77 ∧ (10 = 59 ∨ 65 ≤ 10 ∧ 10 ≤ 69) ∨ 112 ≤ 77 ∧ 77 ≤ 114 ∧ 40 ≤ 10 ∨ 77 = 115 ∨ 77 = 116 by decide)
              refine to_an (pc := 188) rw_225_188 rfl (to_c (pc := 189) rw_225_189 (x := (4 : Int32)) rfl rfl (s_v (pc := 190) rw_225_190 (dp0 hd (by decide)) (ls0 := [.ref 77, .int (4 : Int32)]) rfl (Nat.le_of_ble_eq_true rfl) (Nat.le_of_ble_eq_true rfl) rfl (to_rc rfl rfl rfl (g_o hG101 rfl)) rfl (to_an (pc := 0) rw_152_0 rfl (to_in (pc := 1) rw_152_1 rfl (s_pI (pc := 2) rw_152_2 hG101 rfl (fun M104 W103 => ?_))))))
              have hG105 := g_wf hG101 W103 rfl rfl (by decide)
              have F106 := FR.w F102 W103 (show 77 = 77 ∧ (4 = 4 ∨ 4 = 5 ∨ 7 ≤ 4 ∧ 4 ≤ 10) ∨ 77 = 77 ∧ (4 = 59 ∨ 65 ≤ 4 ∧ 4 ≤ 69) ∨ 112 ≤ 77 ∧ 77 ≤ 114 ∧ 40 ≤ 4 ∨ 77 = 115 ∨ 77 = 116 by decide)
              refine to_an (pc := 5) rw_152_5 rfl (to_an (pc := 6) rw_152_6 rfl ?_)
              have c_107 : M104.2.1 77 10 = (M.2.1 77 10) := (W_n W103 (by decide) (W_e W99))
              refine tt_gI (pc := 7) rw_152_7 (g_o hG105 rfl) (v := (M.2.1 77 10)) c_107 (s_pI (pc := 10) rw_152_10 hG105 rfl (fun M109 W108 => ?_))
              have hG110 := g_wf hG105 W108 rfl rfl (by decide)
              have F111 := FR.w F106 W108 (show 77 = 77 ∧ (5 = 4 ∨ 5 = 5 ∨ 7 ≤ 5 ∧ 5 ≤ 10) ∨ 77 = 77 ∧ (5 = 59 ∨ 65 ≤ 5 ∧ 5 ≤ 69) ∨ 112 ≤ 77 ∧ 77 ≤ 114 ∧ 40 ≤ 5 ∨ 77 = 115 ∨ 77 = 116 by decide)
              refine to_c (pc := 13) rw_152_13 (x := (0 : Int32)) rfl rfl (s_r1 (pc := 14) rw_152_14 (A := 0) rfl (by decide) (s_r1 (pc := 193) rw_225_193 (A := 0) rfl (by decide) ?_))
              have k_112 : (0 : Int32).toInt = 0 := rfl
              have c_113 : M109.2.1 77 7 = (M34.2.1 77 7) := (W_n W108 (by decide) (W_n W103 (by decide) (W_n W99 (by decide) (F_n F56 (show ¬ (77 < 0) by decide) (F_n F45 (show ¬ (77 < 0) by decide) rfl)))))
              have t_114 : (M109.2.1 77 7).toInt = (M34.2.1 77 7).toInt := congrArg Int32.toInt c_113
              have c_115 : M109.2.1 77 6 = (M.2.1 77 6) := (W_n W108 (by decide) (W_n W103 (by decide) (W_n W99 (by decide) (F_n F56 (show ¬ (77 < 0) by decide) (F_n F45 (show ¬ (77 < 0) by decide) c_37)))))
              have t_116 : (M109.2.1 77 6).toInt = (M.2.1 77 6).toInt := congrArg Int32.toInt c_115
              have c_117 : M109.2.1 77 8 = (M34.2.1 77 8) := (W_n W108 (by decide) (W_n W103 (by decide) (W_n W99 (by decide) (F_n F56 (show ¬ (77 < 0) by decide) (F_n F45 (show ¬ (77 < 0) by decide) rfl)))))
              have t_118 : (M109.2.1 77 8).toInt = (M34.2.1 77 8).toInt := congrArg Int32.toInt c_117
              exact h (0 : Int32) M109 hG110 F111 (by decide) (by decide) (by omega) (by omega) (by omega) (by omega) (fun z => absurd z (by omega))
          · refine to_an (pc := 8) rw_159_8 rfl (tt_gI (pc := 9) rw_159_9 (g_o hG30 rfl) (v := (M34.2.1 77 9)) rfl (to_in (pc := 12) rw_159_12 rfl (b_cne (pc := 13) rw_159_13 (A := (M34.2.1 77 9).toInt) (B := 61) rfl rfl (fun h119 => ?_) (fun h119 => ?_))))
            · refine to_c (pc := 20) rw_159_20 (x := (0 : Int32)) rfl rfl (s_r1 (pc := 21) rw_159_21 (A := 0) rfl (by decide) (to_isn (pc := 147) rw_225_147 (ls2 := [.ref 77, .int (M.2.1 77 9), .int (M.2.1 77 10), .int (0 : Int32), .null, .null]) rfl rfl (to_an (pc := 148) rw_225_148 rfl (to_in (pc := 149) rw_225_149 rfl (s_v (pc := 150) rw_225_150 (dp0 hd (by decide)) (ls0 := [.ref 77, .int (M.2.1 77 9), .null]) rfl (Nat.le_of_ble_eq_true rfl) (Nat.le_of_ble_eq_true rfl) rfl (to_rc rfl rfl rfl (g_o hG30 rfl)) rfl ?_)))))
              have c_120 : M34.2.1 77 12 = (M.2.1 77 12) := (F_n F29 (show ¬ (77 = 77 ∧ 7 ≤ 12 ∧ 12 ≤ 10) by decide) (W_n W18 (by decide) rfl))
              have b_121 := g_b hG (a := 77) (i := 12) (lo := 0) (hi := 8) rfl rfl
              have t_122 : (M34.2.1 77 12).toInt = (M.2.1 77 12).toInt := congrArg Int32.toInt c_120
              refine C_175 hX (dp1 hd (by decide)) hG30 (n := (M.2.1 77 9)) (fun r123 M129 hG125 F124 p_126 p_127 p_128 => ?_)
              have F130 := FR.c F35 F124 tg_309
              refine to_is (pc := 153) rw_225_153 (ls2 := [.ref 77, .int (M.2.1 77 9), .int (M.2.1 77 10), .int (0 : Int32), .int r123, .null]) rfl rfl (to_an (pc := 155) rw_225_155 rfl (to_in (pc := 156) rw_225_156 rfl (s_v (pc := 157) rw_225_157 (dp0 hd (by decide)) (ls0 := [.ref 77, .int (M.2.1 77 9), .null]) rfl (Nat.le_of_ble_eq_true rfl) (Nat.le_of_ble_eq_true rfl) rfl (to_rc rfl rfl rfl (g_o hG125 rfl)) rfl ?_)))
              have c_131 : M129.2.1 77 13 = (M.2.1 77 13) := (F_n F124 (show ¬ (77 < 0) by decide) (F_n F29 (show ¬ (77 = 77 ∧ 7 ≤ 13 ∧ 13 ≤ 10) by decide) (W_n W18 (by decide) rfl)))
              have b_132 := g_b hG (a := 77) (i := 13) (lo := 0) (hi := 12) rfl rfl
              have t_133 : (M129.2.1 77 13).toInt = (M.2.1 77 13).toInt := congrArg Int32.toInt c_131
              refine C_176 hX (dp1 hd (by decide)) hG125 (n := (M.2.1 77 9)) (fun r134 M140 hG136 F135 p_137 p_138 p_139 => ?_)
              have F141 := FR.c F130 F135 tg_309
              refine to_is (pc := 160) rw_225_160 (ls2 := [.ref 77, .int (M.2.1 77 9), .int (M.2.1 77 10), .int (0 : Int32), .int r123, .int r134]) rfl rfl (to_in (pc := 162) rw_225_162 rfl (b_ieq_t (pc := 163) rw_225_163 (A := 0) rfl (by decide) (to_i (pc := 178) rw_225_178 rfl (b_ige (pc := 180) rw_225_180 (A := r134.toInt) rfl (fun h142 => ?_) (fun h142 => ?_)))))
              · refine to_an (pc := 194) rw_225_194 rfl (to_c (pc := 195) rw_225_195 (x := (1 : Int32)) rfl rfl (s_pI (pc := 196) rw_225_196 hG136 rfl (fun M144 W143 => ?_)))
                have hG145 := g_w hG136 W143 (A := 1) rfl (lo := 0) (hi := 1) rfl rfl (by omega) (by decide)
                have F146 := FR.w F141 W143 (show 77 = 77 ∧ (68 = 4 ∨ 68 = 5 ∨ 7 ≤ 68 ∧ 68 ≤ 10) ∨ 77 = 77 ∧ (68 = 59 ∨ 65 ≤ 68 ∧ 68 ≤ 69) ∨ 112 ≤ 77 ∧ 77 ≤ 114 ∧ 40 ≤ 68 ∨ 77 = 115 ∨ 77 = 116 by decide)
                refine to_in (pc := 199) rw_225_199 rfl (b_ine_f (pc := 200) rw_225_200 (A := 0) rfl (by decide) (to_an (pc := 203) rw_225_203 rfl (to_c (pc := 204) rw_225_204 (x := (1 : Int32)) rfl rfl (to_i (pc := 205) rw_225_205 rfl (to_c (pc := 207) rw_225_207 (x := (0 : Int32)) rfl rfl (s_v (pc := 208) rw_225_208 (dp0 hd (by decide)) (ls0 := [.ref 77, .int (1 : Int32), .int r134, .int (0 : Int32)]) rfl (Nat.le_of_ble_eq_true rfl) (Nat.le_of_ble_eq_true rfl) rfl (to_rc rfl rfl rfl (g_o hG145 rfl)) rfl ?_))))))
                have k_147 : (1 : Int32).toInt = 1 := rfl
                have k_148 : (0 : Int32).toInt = 0 := rfl
                have c_149 : M144.2.1 77 59 = (M.2.1 77 59) := (W_n W143 (by decide) (F_n F135 (show ¬ (77 < 0) by decide) (F_n F124 (show ¬ (77 < 0) by decide) (F_n F29 (show ¬ (77 = 77 ∧ 7 ≤ 59 ∧ 59 ≤ 10) by decide) (W_n W18 (by decide) rfl)))))
                have t_150 : (M144.2.1 77 59).toInt = (M.2.1 77 59).toInt := congrArg Int32.toInt c_149
                have c_151 : M144.2.1 77 66 = (M.2.1 77 66) := (W_n W143 (by decide) (F_n F135 (show ¬ (77 < 0) by decide) (F_n F124 (show ¬ (77 < 0) by decide) (F_n F29 (show ¬ (77 = 77 ∧ 7 ≤ 66 ∧ 66 ≤ 10) by decide) (W_n W18 (by decide) rfl)))))
                have t_152 : (M144.2.1 77 66).toInt = (M.2.1 77 66).toInt := congrArg Int32.toInt c_151
                refine C_221 hX (dp1 hd (by decide)) hG145 (by omega) (by omega) (by omega) (by omega) (by omega) (by omega) (by rw [(W_n W143 (by omega) (F_n F135 (show ¬ (77 < 0) by decide) (F_n F124 (show ¬ (77 < 0) by decide) (F_n F29 (show ¬ (77 = 77 ∧ 7 ≤ 59 ∧ 59 ≤ 10) by decide) (W_n W18 (by omega) rfl)))))]; exact KN_f (fun a i z => (W_n W143 (by /-r77,68-/ omega) (F_n F135 (show ¬ (a < 0) by omega) (F_n F124 (show ¬ (a < 0) by omega) (F_n F29 (show ¬ (a = 77 ∧ 7 ≤ i ∧ i ≤ 10) by omega) (W_n W18 (by /-r77,69-/ omega) rfl)))))) q2.2.2) (by omega) (by omega) (by omega) (by omega) (k := (1 : Int32)) (p := r134) (o := (0 : Int32)) (fun M158 hG154 F153 p_155 p_156 p_157 => ?_)
                have F159 := FR.c F146 F153 tg_310
                have b_160 := g_b hG154 (a := 77) (i := 59) (lo := 0) (hi := 40) rfl rfl
                have b_161 := g_b hG154 (a := 77) (i := 66) (lo := 0) (hi := 40) rfl rfl
                refine to_c (pc := 211) rw_225_211 (x := (1 : Int32)) rfl rfl (s_r1 (pc := 212) rw_225_212 (A := 1) rfl (by decide) ?_)
                have c_162 : M158.2.1 77 7 = (M34.2.1 77 7) := (F_n F153 (show ¬ (77 = 77 ∧ (7 = 59 ∨ 7 = 66) ∨ 112 ≤ 77 ∧ 77 ≤ 114 ∧ 40 ≤ 7 ∨ 77 = 116) by decide) (W_n W143 (by decide) (F_n F135 (show ¬ (77 < 0) by decide) (F_n F124 (show ¬ (77 < 0) by decide) rfl))))
                have t_163 : (M158.2.1 77 7).toInt = (M34.2.1 77 7).toInt := congrArg Int32.toInt c_162
                have c_164 : M158.2.1 77 6 = (M.2.1 77 6) := (F_n F153 (show ¬ (77 = 77 ∧ (6 = 59 ∨ 6 = 66) ∨ 112 ≤ 77 ∧ 77 ≤ 114 ∧ 40 ≤ 6 ∨ 77 = 116) by decide) (W_n W143 (by decide) (F_n F135 (show ¬ (77 < 0) by decide) (F_n F124 (show ¬ (77 < 0) by decide) c_37))))
                have t_165 : (M158.2.1 77 6).toInt = (M.2.1 77 6).toInt := congrArg Int32.toInt c_164
                have c_166 : M158.2.1 77 8 = (M34.2.1 77 8) := (F_n F153 (show ¬ (77 = 77 ∧ (8 = 59 ∨ 8 = 66) ∨ 112 ≤ 77 ∧ 77 ≤ 114 ∧ 40 ≤ 8 ∨ 77 = 116) by decide) (W_n W143 (by decide) (F_n F135 (show ¬ (77 < 0) by decide) (F_n F124 (show ¬ (77 < 0) by decide) rfl))))
                have t_167 : (M158.2.1 77 8).toInt = (M34.2.1 77 8).toInt := congrArg Int32.toInt c_166
                have c_168 : M158.2.1 77 65 = (M.2.1 77 65) := (F_n F153 (show ¬ (77 = 77 ∧ (65 = 59 ∨ 65 = 66) ∨ 112 ≤ 77 ∧ 77 ≤ 114 ∧ 40 ≤ 65 ∨ 77 = 116) by decide) (W_n W143 (by decide) (F_n F135 (show ¬ (77 < 0) by decide) (F_n F124 (show ¬ (77 < 0) by decide) (F_n F29 (show ¬ (77 = 77 ∧ 7 ≤ 65 ∧ 65 ≤ 10) by decide) (W_n W18 (by decide) rfl))))))
                have t_169 : (M158.2.1 77 65).toInt = (M.2.1 77 65).toInt := congrArg Int32.toInt c_168
                have c_170 : M158.2.1 77 67 = (M.2.1 77 67) := (F_n F153 (show ¬ (77 = 77 ∧ (67 = 59 ∨ 67 = 66) ∨ 112 ≤ 77 ∧ 77 ≤ 114 ∧ 40 ≤ 67 ∨ 77 = 116) by decide) (W_n W143 (by decide) (F_n F135 (show ¬ (77 < 0) by decide) (F_n F124 (show ¬ (77 < 0) by decide) (F_n F29 (show ¬ (77 = 77 ∧ 7 ≤ 67 ∧ 67 ≤ 10) by decide) (W_n W18 (by decide) rfl))))))
                have t_171 : (M158.2.1 77 67).toInt = (M.2.1 77 67).toInt := congrArg Int32.toInt c_170
                have c_172 : M158.2.1 77 68 = (1 : Int32) := (F_n F153 (show ¬ (77 = 77 ∧ (68 = 59 ∨ 68 = 66) ∨ 112 ≤ 77 ∧ 77 ≤ 114 ∧ 40 ≤ 68 ∨ 77 = 116) by decide) (W_e W143))
                have t_173 : (M158.2.1 77 68).toInt = (1 : Int32).toInt := congrArg Int32.toInt c_172
                have c_174 : M158.2.1 77 69 = v16 := (F_n F153 (show ¬ (77 = 77 ∧ (69 = 59 ∨ 69 = 66) ∨ 112 ≤ 77 ∧ 77 ≤ 114 ∧ 40 ≤ 69 ∨ 77 = 116) by decide) (W_n W143 (by decide) (F_n F135 (show ¬ (77 < 0) by decide) (F_n F124 (show ¬ (77 < 0) by decide) (F_n F29 (show ¬ (77 = 77 ∧ 7 ≤ 69 ∧ 69 ≤ 10) by decide) (W_e W18))))))
                have t_175 : (M158.2.1 77 69).toInt = v16.toInt := congrArg Int32.toInt c_174
                have s_177 := Wx_f (M := M) (M1 := M158) ((M.2.1 77 65).toInt).toNat (fun i z => (F_n F153 (show ¬ (115 = 77 ∧ (i = 59 ∨ i = 66) ∨ 112 ≤ 115 ∧ 115 ≤ 114 ∧ 40 ≤ i ∨ 115 = 116) by omega) (W_n W143 (by omega) (F_n F135 (show ¬ (115 < 0) by decide) (F_n F124 (show ¬ (115 < 0) by decide) (F_n F29 (show ¬ (115 = 77 ∧ 7 ≤ i ∧ i ≤ 10) by omega) (W_n W18 (by omega) rfl)))))))
                have j_176 : QK M158 := QK_i (by unfold QK_c; rw [show ((M158.2.1 77 65).toInt).toNat = ((M.2.1 77 65).toInt).toNat by omega]; refine ⟨by omega, by omega, by omega, by omega⟩) (fun i z => by rw [(F_n F153 (show ¬ (115 = 77 ∧ (i = 59 ∨ i = 66) ∨ 112 ≤ 115 ∧ 115 ≤ 114 ∧ 40 ≤ i ∨ 115 = 116) by omega) (W_n W143 (by omega) (F_n F135 (show ¬ (115 < 0) by decide) (F_n F124 (show ¬ (115 < 0) by decide) (F_n F29 (show ¬ (115 = 77 ∧ 7 ≤ i ∧ i ≤ 10) by omega) (W_n W18 (by omega) rfl))))))]; exact q2.2.1 i (by omega)) p_157
                exact h (1 : Int32) M158 hG154 F159 (by decide) (by decide) (by omega) (by omega) (by omega) (by omega) (fun _ => j_176)
              · refine to_an (pc := 183) rw_225_183 rfl (to_in (pc := 184) rw_225_184 rfl (s_pI (pc := 185) rw_225_185 hG136 rfl (fun M179 W178 => ?_)))
                have hG180 := g_w hG136 W178 (A := (M.2.1 77 10).toInt) rfl (lo := 0) (hi := 500) rfl rfl (by omega) (by decide)
                have F181 := FR.w F141 W178 (show 77 = 77 ∧ (10 = 4 ∨ 10 = 5 ∨ 7 ≤ 10 ∧ 10 ≤ 10) ∨ 77 = 77 ∧ (10 = 59 ∨ 65 ≤ 10 ∧ 10 ≤ 69) ∨ 112 ≤ 77 ∧ 77 ≤ 114 ∧ 40 ≤ 10 ∨ 77 = 115 ∨ 77 = 116 by decide)
                refine to_an (pc := 188) rw_225_188 rfl (to_c (pc := 189) rw_225_189 (x := (4 : Int32)) rfl rfl (s_v (pc := 190) rw_225_190 (dp0 hd (by decide)) (ls0 := [.ref 77, .int (4 : Int32)]) rfl (Nat.le_of_ble_eq_true rfl) (Nat.le_of_ble_eq_true rfl) rfl (to_rc rfl rfl rfl (g_o hG180 rfl)) rfl (to_an (pc := 0) rw_152_0 rfl (to_in (pc := 1) rw_152_1 rfl (s_pI (pc := 2) rw_152_2 hG180 rfl (fun M183 W182 => ?_))))))
                have hG184 := g_wf hG180 W182 rfl rfl (by decide)
                have F185 := FR.w F181 W182 (show 77 = 77 ∧ (4 = 4 ∨ 4 = 5 ∨ 7 ≤ 4 ∧ 4 ≤ 10) ∨ 77 = 77 ∧ (4 = 59 ∨ 65 ≤ 4 ∧ 4 ≤ 69) ∨ 112 ≤ 77 ∧ 77 ≤ 114 ∧ 40 ≤ 4 ∨ 77 = 115 ∨ 77 = 116 by decide)
                refine to_an (pc := 5) rw_152_5 rfl (to_an (pc := 6) rw_152_6 rfl ?_)
                have c_186 : M183.2.1 77 10 = (M.2.1 77 10) := (W_n W182 (by decide) (W_e W178))
                refine tt_gI (pc := 7) rw_152_7 (g_o hG184 rfl) (v := (M.2.1 77 10)) c_186 (s_pI (pc := 10) rw_152_10 hG184 rfl (fun M188 W187 => ?_))
                have hG189 := g_wf hG184 W187 rfl rfl (by decide)
                have F190 := FR.w F185 W187 (show 77 = 77 ∧ (5 = 4 ∨ 5 = 5 ∨ 7 ≤ 5 ∧ 5 ≤ 10) ∨ 77 = 77 ∧ (5 = 59 ∨ 65 ≤ 5 ∧ 5 ≤ 69) ∨ 112 ≤ 77 ∧ 77 ≤ 114 ∧ 40 ≤ 5 ∨ 77 = 115 ∨ 77 = 116 by decide)
                refine to_c (pc := 13) rw_152_13 (x := (0 : Int32)) rfl rfl (s_r1 (pc := 14) rw_152_14 (A := 0) rfl (by decide) (s_r1 (pc := 193) rw_225_193 (A := 0) rfl (by decide) ?_))
                have k_191 : (0 : Int32).toInt = 0 := rfl
                have c_192 : M188.2.1 77 7 = (M34.2.1 77 7) := (W_n W187 (by decide) (W_n W182 (by decide) (W_n W178 (by decide) (F_n F135 (show ¬ (77 < 0) by decide) (F_n F124 (show ¬ (77 < 0) by decide) rfl)))))
                have t_193 : (M188.2.1 77 7).toInt = (M34.2.1 77 7).toInt := congrArg Int32.toInt c_192
                have c_194 : M188.2.1 77 6 = (M.2.1 77 6) := (W_n W187 (by decide) (W_n W182 (by decide) (W_n W178 (by decide) (F_n F135 (show ¬ (77 < 0) by decide) (F_n F124 (show ¬ (77 < 0) by decide) c_37)))))
                have t_195 : (M188.2.1 77 6).toInt = (M.2.1 77 6).toInt := congrArg Int32.toInt c_194
                have c_196 : M188.2.1 77 8 = (M34.2.1 77 8) := (W_n W187 (by decide) (W_n W182 (by decide) (W_n W178 (by decide) (F_n F135 (show ¬ (77 < 0) by decide) (F_n F124 (show ¬ (77 < 0) by decide) rfl)))))
                have t_197 : (M188.2.1 77 8).toInt = (M34.2.1 77 8).toInt := congrArg Int32.toInt c_196
                exact h (0 : Int32) M188 hG189 F190 (by decide) (by decide) (by omega) (by omega) (by omega) (by omega) (fun z => absurd z (by omega))
            · refine to_c (pc := 16) rw_159_16 (x := (1 : Int32)) rfl rfl (to_go (pc := 17) rw_159_17 (s_r1 (pc := 21) rw_159_21 (A := 1) rfl (by decide) (to_isn (pc := 147) rw_225_147 (ls2 := [.ref 77, .int (M.2.1 77 9), .int (M.2.1 77 10), .int (1 : Int32), .null, .null]) rfl rfl (to_an (pc := 148) rw_225_148 rfl (to_in (pc := 149) rw_225_149 rfl (s_v (pc := 150) rw_225_150 (dp0 hd (by decide)) (ls0 := [.ref 77, .int (M.2.1 77 9), .null]) rfl (Nat.le_of_ble_eq_true rfl) (Nat.le_of_ble_eq_true rfl) rfl (to_rc rfl rfl rfl (g_o hG30 rfl)) rfl ?_))))))
              have c_198 : M34.2.1 77 12 = (M.2.1 77 12) := (F_n F29 (show ¬ (77 = 77 ∧ 7 ≤ 12 ∧ 12 ≤ 10) by decide) (W_n W18 (by decide) rfl))
              have b_199 := g_b hG (a := 77) (i := 12) (lo := 0) (hi := 8) rfl rfl
              have t_200 : (M34.2.1 77 12).toInt = (M.2.1 77 12).toInt := congrArg Int32.toInt c_198
              refine C_175 hX (dp1 hd (by decide)) hG30 (n := (M.2.1 77 9)) (fun r201 M207 hG203 F202 p_204 p_205 p_206 => ?_)
              have F208 := FR.c F35 F202 tg_309
              refine to_is (pc := 153) rw_225_153 (ls2 := [.ref 77, .int (M.2.1 77 9), .int (M.2.1 77 10), .int (1 : Int32), .int r201, .null]) rfl rfl (to_an (pc := 155) rw_225_155 rfl (to_in (pc := 156) rw_225_156 rfl (s_v (pc := 157) rw_225_157 (dp0 hd (by decide)) (ls0 := [.ref 77, .int (M.2.1 77 9), .null]) rfl (Nat.le_of_ble_eq_true rfl) (Nat.le_of_ble_eq_true rfl) rfl (to_rc rfl rfl rfl (g_o hG203 rfl)) rfl ?_)))
              have c_209 : M207.2.1 77 13 = (M.2.1 77 13) := (F_n F202 (show ¬ (77 < 0) by decide) (F_n F29 (show ¬ (77 = 77 ∧ 7 ≤ 13 ∧ 13 ≤ 10) by decide) (W_n W18 (by decide) rfl)))
              have b_210 := g_b hG (a := 77) (i := 13) (lo := 0) (hi := 12) rfl rfl
              have t_211 : (M207.2.1 77 13).toInt = (M.2.1 77 13).toInt := congrArg Int32.toInt c_209
              refine C_176 hX (dp1 hd (by decide)) hG203 (n := (M.2.1 77 9)) (fun r212 M218 hG214 F213 p_215 p_216 p_217 => ?_)
              have F219 := FR.c F208 F213 tg_309
              refine to_is (pc := 160) rw_225_160 (ls2 := [.ref 77, .int (M.2.1 77 9), .int (M.2.1 77 10), .int (1 : Int32), .int r201, .int r212]) rfl rfl (to_in (pc := 162) rw_225_162 rfl (b_ieq_f (pc := 163) rw_225_163 (A := 1) rfl (by decide) (to_an (pc := 166) rw_225_166 rfl (to_i (pc := 167) rw_225_167 rfl (s_v (pc := 169) rw_225_169 (dp0 hd (by decide)) (ls0 := [.ref 77, .int r201]) rfl (Nat.le_of_ble_eq_true rfl) (Nat.le_of_ble_eq_true rfl) rfl (to_rc rfl rfl rfl (g_o hG214 rfl)) rfl (to_an (pc := 0) rw_179_0 rfl (to_in (pc := 1) rw_179_1 rfl (s_v (pc := 2) rw_179_2 (dp1 hd (by decide)) (ls0 := [.ref 77, .int r201]) rfl (Nat.le_of_ble_eq_true rfl) (Nat.le_of_ble_eq_true rfl) rfl (to_rc rfl rfl rfl (g_o hG214 rfl)) rfl (to_in (pc := 0) rw_178_0 rfl (b_ilt (pc := 1) rw_178_1 (A := r201.toInt) rfl (fun h220 => ?_) (fun h220 => ?_)))))))))))
              · refine to_c (pc := 16) rw_178_16 (x := (0 : Int32)) rfl rfl (s_r1 (pc := 17) rw_178_17 (A := 0) rfl (by decide) (b_ieq_t (pc := 5) rw_179_5 (A := 0) rfl (by decide) (to_c (pc := 22) rw_179_22 (x := (0 : Int32)) rfl rfl (s_r1 (pc := 23) rw_179_23 (A := 0) rfl (by decide) (b_ine_f (pc := 172) rw_225_172 (A := 0) rfl (by decide) (to_go (pc := 175) rw_225_175 (to_an (pc := 183) rw_225_183 rfl (to_in (pc := 184) rw_225_184 rfl (s_pI (pc := 185) rw_225_185 hG214 rfl (fun M222 W221 => ?_))))))))))
                have hG223 := g_w hG214 W221 (A := (M.2.1 77 10).toInt) rfl (lo := 0) (hi := 500) rfl rfl (by omega) (by decide)
                have F224 := FR.w F219 W221 (show 77 = 77 ∧ (10 = 4 ∨ 10 = 5 ∨ 7 ≤ 10 ∧ 10 ≤ 10) ∨ 77 = 77 ∧ (10 = 59 ∨ 65 ≤ 10 ∧ 10 ≤ 69) ∨ 112 ≤ 77 ∧ 77 ≤ 114 ∧ 40 ≤ 10 ∨ 77 = 115 ∨ 77 = 116 by decide)
                refine to_an (pc := 188) rw_225_188 rfl (to_c (pc := 189) rw_225_189 (x := (4 : Int32)) rfl rfl (s_v (pc := 190) rw_225_190 (dp0 hd (by decide)) (ls0 := [.ref 77, .int (4 : Int32)]) rfl (Nat.le_of_ble_eq_true rfl) (Nat.le_of_ble_eq_true rfl) rfl (to_rc rfl rfl rfl (g_o hG223 rfl)) rfl (to_an (pc := 0) rw_152_0 rfl (to_in (pc := 1) rw_152_1 rfl (s_pI (pc := 2) rw_152_2 hG223 rfl (fun M226 W225 => ?_))))))
                have hG227 := g_wf hG223 W225 rfl rfl (by decide)
                have F228 := FR.w F224 W225 (show 77 = 77 ∧ (4 = 4 ∨ 4 = 5 ∨ 7 ≤ 4 ∧ 4 ≤ 10) ∨ 77 = 77 ∧ (4 = 59 ∨ 65 ≤ 4 ∧ 4 ≤ 69) ∨ 112 ≤ 77 ∧ 77 ≤ 114 ∧ 40 ≤ 4 ∨ 77 = 115 ∨ 77 = 116 by decide)
                refine to_an (pc := 5) rw_152_5 rfl (to_an (pc := 6) rw_152_6 rfl ?_)
                have c_229 : M226.2.1 77 10 = (M.2.1 77 10) := (W_n W225 (by decide) (W_e W221))
                refine tt_gI (pc := 7) rw_152_7 (g_o hG227 rfl) (v := (M.2.1 77 10)) c_229 (s_pI (pc := 10) rw_152_10 hG227 rfl (fun M231 W230 => ?_))
                have hG232 := g_wf hG227 W230 rfl rfl (by decide)
                have F233 := FR.w F228 W230 (show 77 = 77 ∧ (5 = 4 ∨ 5 = 5 ∨ 7 ≤ 5 ∧ 5 ≤ 10) ∨ 77 = 77 ∧ (5 = 59 ∨ 65 ≤ 5 ∧ 5 ≤ 69) ∨ 112 ≤ 77 ∧ 77 ≤ 114 ∧ 40 ≤ 5 ∨ 77 = 115 ∨ 77 = 116 by decide)
                refine to_c (pc := 13) rw_152_13 (x := (0 : Int32)) rfl rfl (s_r1 (pc := 14) rw_152_14 (A := 0) rfl (by decide) (s_r1 (pc := 193) rw_225_193 (A := 0) rfl (by decide) ?_))
                have k_234 : (0 : Int32).toInt = 0 := rfl
                have c_235 : M231.2.1 77 7 = (M34.2.1 77 7) := (W_n W230 (by decide) (W_n W225 (by decide) (W_n W221 (by decide) (F_n F213 (show ¬ (77 < 0) by decide) (F_n F202 (show ¬ (77 < 0) by decide) rfl)))))
                have t_236 : (M231.2.1 77 7).toInt = (M34.2.1 77 7).toInt := congrArg Int32.toInt c_235
                have c_237 : M231.2.1 77 6 = (M.2.1 77 6) := (W_n W230 (by decide) (W_n W225 (by decide) (W_n W221 (by decide) (F_n F213 (show ¬ (77 < 0) by decide) (F_n F202 (show ¬ (77 < 0) by decide) c_37)))))
                have t_238 : (M231.2.1 77 6).toInt = (M.2.1 77 6).toInt := congrArg Int32.toInt c_237
                have c_239 : M231.2.1 77 8 = (M34.2.1 77 8) := (W_n W230 (by decide) (W_n W225 (by decide) (W_n W221 (by decide) (F_n F213 (show ¬ (77 < 0) by decide) (F_n F202 (show ¬ (77 < 0) by decide) rfl)))))
                have t_240 : (M231.2.1 77 8).toInt = (M34.2.1 77 8).toInt := congrArg Int32.toInt c_239
                exact h (0 : Int32) M231 hG232 F233 (by decide) (by decide) (by omega) (by omega) (by omega) (by omega) (fun z => absurd z (by omega))
              · refine to_in (pc := 4) rw_178_4 rfl (to_an (pc := 5) rw_178_5 rfl ?_)
                have c_241 : M218.2.1 77 12 = (M.2.1 77 12) := (F_n F213 (show ¬ (77 < 0) by decide) (F_n F202 (show ¬ (77 < 0) by decide) c_198))
                refine tt_gI (pc := 6) rw_178_6 (g_o hG214 rfl) (v := (M.2.1 77 12)) c_241 (b_cge (pc := 9) rw_178_9 (A := r201.toInt) (B := (M.2.1 77 12).toInt) rfl rfl (fun h242 => ?_) (fun h242 => ?_))
                · refine to_c (pc := 16) rw_178_16 (x := (0 : Int32)) rfl rfl (s_r1 (pc := 17) rw_178_17 (A := 0) rfl (by decide) (b_ieq_t (pc := 5) rw_179_5 (A := 0) rfl (by decide) (to_c (pc := 22) rw_179_22 (x := (0 : Int32)) rfl rfl (s_r1 (pc := 23) rw_179_23 (A := 0) rfl (by decide) (b_ine_f (pc := 172) rw_225_172 (A := 0) rfl (by decide) (to_go (pc := 175) rw_225_175 (to_an (pc := 183) rw_225_183 rfl (to_in (pc := 184) rw_225_184 rfl (s_pI (pc := 185) rw_225_185 hG214 rfl (fun M244 W243 => ?_))))))))))
                  have hG245 := g_w hG214 W243 (A := (M.2.1 77 10).toInt) rfl (lo := 0) (hi := 500) rfl rfl (by omega) (by decide)
                  have F246 := FR.w F219 W243 (show 77 = 77 ∧ (10 = 4 ∨ 10 = 5 ∨ 7 ≤ 10 ∧ 10 ≤ 10) ∨ 77 = 77 ∧ (10 = 59 ∨ 65 ≤ 10 ∧ 10 ≤ 69) ∨ 112 ≤ 77 ∧ 77 ≤ 114 ∧ 40 ≤ 10 ∨ 77 = 115 ∨ 77 = 116 by decide)
                  refine to_an (pc := 188) rw_225_188 rfl (to_c (pc := 189) rw_225_189 (x := (4 : Int32)) rfl rfl (s_v (pc := 190) rw_225_190 (dp0 hd (by decide)) (ls0 := [.ref 77, .int (4 : Int32)]) rfl (Nat.le_of_ble_eq_true rfl) (Nat.le_of_ble_eq_true rfl) rfl (to_rc rfl rfl rfl (g_o hG245 rfl)) rfl (to_an (pc := 0) rw_152_0 rfl (to_in (pc := 1) rw_152_1 rfl (s_pI (pc := 2) rw_152_2 hG245 rfl (fun M248 W247 => ?_))))))
                  have hG249 := g_wf hG245 W247 rfl rfl (by decide)
                  have F250 := FR.w F246 W247 (show 77 = 77 ∧ (4 = 4 ∨ 4 = 5 ∨ 7 ≤ 4 ∧ 4 ≤ 10) ∨ 77 = 77 ∧ (4 = 59 ∨ 65 ≤ 4 ∧ 4 ≤ 69) ∨ 112 ≤ 77 ∧ 77 ≤ 114 ∧ 40 ≤ 4 ∨ 77 = 115 ∨ 77 = 116 by decide)
                  refine to_an (pc := 5) rw_152_5 rfl (to_an (pc := 6) rw_152_6 rfl ?_)
                  have c_251 : M248.2.1 77 10 = (M.2.1 77 10) := (W_n W247 (by decide) (W_e W243))
                  refine tt_gI (pc := 7) rw_152_7 (g_o hG249 rfl) (v := (M.2.1 77 10)) c_251 (s_pI (pc := 10) rw_152_10 hG249 rfl (fun M253 W252 => ?_))
                  have hG254 := g_wf hG249 W252 rfl rfl (by decide)
                  have F255 := FR.w F250 W252 (show 77 = 77 ∧ (5 = 4 ∨ 5 = 5 ∨ 7 ≤ 5 ∧ 5 ≤ 10) ∨ 77 = 77 ∧ (5 = 59 ∨ 65 ≤ 5 ∧ 5 ≤ 69) ∨ 112 ≤ 77 ∧ 77 ≤ 114 ∧ 40 ≤ 5 ∨ 77 = 115 ∨ 77 = 116 by decide)
                  refine to_c (pc := 13) rw_152_13 (x := (0 : Int32)) rfl rfl (s_r1 (pc := 14) rw_152_14 (A := 0) rfl (by decide) (s_r1 (pc := 193) rw_225_193 (A := 0) rfl (by decide) ?_))
                  have k_256 : (0 : Int32).toInt = 0 := rfl
                  have c_257 : M253.2.1 77 7 = (M34.2.1 77 7) := (W_n W252 (by decide) (W_n W247 (by decide) (W_n W243 (by decide) (F_n F213 (show ¬ (77 < 0) by decide) (F_n F202 (show ¬ (77 < 0) by decide) rfl)))))
                  have t_258 : (M253.2.1 77 7).toInt = (M34.2.1 77 7).toInt := congrArg Int32.toInt c_257
                  have c_259 : M253.2.1 77 6 = (M.2.1 77 6) := (W_n W252 (by decide) (W_n W247 (by decide) (W_n W243 (by decide) (F_n F213 (show ¬ (77 < 0) by decide) (F_n F202 (show ¬ (77 < 0) by decide) c_37)))))
                  have t_260 : (M253.2.1 77 6).toInt = (M.2.1 77 6).toInt := congrArg Int32.toInt c_259
                  have c_261 : M253.2.1 77 8 = (M34.2.1 77 8) := (W_n W252 (by decide) (W_n W247 (by decide) (W_n W243 (by decide) (F_n F213 (show ¬ (77 < 0) by decide) (F_n F202 (show ¬ (77 < 0) by decide) rfl)))))
                  have t_262 : (M253.2.1 77 8).toInt = (M34.2.1 77 8).toInt := congrArg Int32.toInt c_261
                  exact h (0 : Int32) M253 hG254 F255 (by decide) (by decide) (by omega) (by omega) (by omega) (by omega) (fun z => absurd z (by omega))
                · refine to_c (pc := 12) rw_178_12 (x := (1 : Int32)) rfl rfl (to_go (pc := 13) rw_178_13 (s_r1 (pc := 17) rw_178_17 (A := 1) rfl (by decide) (b_ieq_f (pc := 5) rw_179_5 (A := 1) rfl (by decide) (to_an (pc := 8) rw_179_8 rfl (s_gR (pc := 9) rw_179_9 hG214 rfl (v := 81) rfl (to_in (pc := 12) rw_179_12 rfl (s_ial (pc := 13) rw_179_13 hG214 rfl (n := 16) rfl rfl (A := r201.toInt) rfl (by omega) (by omega) (lo := 0) (hi := 3) rfl rfl (fun v263 w_264 _ _ => ?_))))))))
                  have t_265 := congrArg Int32.toInt w_264
                  have j_267 := (FA_f (tg_218 F213) (FA_f (tg_218 F202) (FA_f (tg_220 F29) (FA_f (fun a i z => W_n W18 (tg_311 a i z) rfl) q3))))
                  have j_266 := FA_u j_267 (r201.toInt).toNat
                  have t_268 : (M218.2.1 81 (r201.toInt).toNat).toInt = (M.2.1 81 (r201.toInt).toNat).toInt := congrArg Int32.toInt (F_n F213 (show ¬ (81 < 0) by decide) (F_n F202 (show ¬ (81 < 0) by decide) (F_n F29 (show ¬ (81 = 77 ∧ 7 ≤ ((r201.toInt).toNat) ∧ ((r201.toInt).toNat) ≤ 10) by omega) (W_n W18 (by omega) rfl))))
                  have t_269 : (M218.2.1 84 (r201.toInt).toNat).toInt = (M.2.1 84 (r201.toInt).toNat).toInt := congrArg Int32.toInt (F_n F213 (show ¬ (84 < 0) by decide) (F_n F202 (show ¬ (84 < 0) by decide) (F_n F29 (show ¬ (84 = 77 ∧ 7 ≤ ((r201.toInt).toNat) ∧ ((r201.toInt).toNat) ≤ 10) by omega) (W_n W18 (by omega) rfl))))
                  have j_270 := FA_u q3 (r201.toInt).toNat
                  refine to_c (pc := 14) rw_179_14 (x := (3 : Int32)) rfl rfl (b_ceq (pc := 15) rw_179_15 (A := v263.toInt) (B := 3) rfl rfl (fun h271 => ?_) (fun h271 => ?_))
                  · refine to_c (pc := 22) rw_179_22 (x := (0 : Int32)) rfl rfl (s_r1 (pc := 23) rw_179_23 (A := 0) rfl (by decide) (b_ine_f (pc := 172) rw_225_172 (A := 0) rfl (by decide) (to_go (pc := 175) rw_225_175 (to_an (pc := 183) rw_225_183 rfl (to_in (pc := 184) rw_225_184 rfl (s_pI (pc := 185) rw_225_185 hG214 rfl (fun M273 W272 => ?_)))))))
                    have hG274 := g_w hG214 W272 (A := (M.2.1 77 10).toInt) rfl (lo := 0) (hi := 500) rfl rfl (by omega) (by decide)
                    have F275 := FR.w F219 W272 (show 77 = 77 ∧ (10 = 4 ∨ 10 = 5 ∨ 7 ≤ 10 ∧ 10 ≤ 10) ∨ 77 = 77 ∧ (10 = 59 ∨ 65 ≤ 10 ∧ 10 ≤ 69) ∨ 112 ≤ 77 ∧ 77 ≤ 114 ∧ 40 ≤ 10 ∨ 77 = 115 ∨ 77 = 116 by decide)
                    refine to_an (pc := 188) rw_225_188 rfl (to_c (pc := 189) rw_225_189 (x := (4 : Int32)) rfl rfl (s_v (pc := 190) rw_225_190 (dp0 hd (by decide)) (ls0 := [.ref 77, .int (4 : Int32)]) rfl (Nat.le_of_ble_eq_true rfl) (Nat.le_of_ble_eq_true rfl) rfl (to_rc rfl rfl rfl (g_o hG274 rfl)) rfl (to_an (pc := 0) rw_152_0 rfl (to_in (pc := 1) rw_152_1 rfl (s_pI (pc := 2) rw_152_2 hG274 rfl (fun M277 W276 => ?_))))))
                    have hG278 := g_wf hG274 W276 rfl rfl (by decide)
                    have F279 := FR.w F275 W276 (show 77 = 77 ∧ (4 = 4 ∨ 4 = 5 ∨ 7 ≤ 4 ∧ 4 ≤ 10) ∨ 77 = 77 ∧ (4 = 59 ∨ 65 ≤ 4 ∧ 4 ≤ 69) ∨ 112 ≤ 77 ∧ 77 ≤ 114 ∧ 40 ≤ 4 ∨ 77 = 115 ∨ 77 = 116 by decide)
                    refine to_an (pc := 5) rw_152_5 rfl (to_an (pc := 6) rw_152_6 rfl ?_)
                    have c_280 : M277.2.1 77 10 = (M.2.1 77 10) := (W_n W276 (by decide) (W_e W272))
                    refine tt_gI (pc := 7) rw_152_7 (g_o hG278 rfl) (v := (M.2.1 77 10)) c_280 (s_pI (pc := 10) rw_152_10 hG278 rfl (fun M282 W281 => ?_))
                    have hG283 := g_wf hG278 W281 rfl rfl (by decide)
                    have F284 := FR.w F279 W281 (show 77 = 77 ∧ (5 = 4 ∨ 5 = 5 ∨ 7 ≤ 5 ∧ 5 ≤ 10) ∨ 77 = 77 ∧ (5 = 59 ∨ 65 ≤ 5 ∧ 5 ≤ 69) ∨ 112 ≤ 77 ∧ 77 ≤ 114 ∧ 40 ≤ 5 ∨ 77 = 115 ∨ 77 = 116 by decide)
                    refine to_c (pc := 13) rw_152_13 (x := (0 : Int32)) rfl rfl (s_r1 (pc := 14) rw_152_14 (A := 0) rfl (by decide) (s_r1 (pc := 193) rw_225_193 (A := 0) rfl (by decide) ?_))
                    have k_285 : (0 : Int32).toInt = 0 := rfl
                    have c_286 : M282.2.1 77 7 = (M34.2.1 77 7) := (W_n W281 (by decide) (W_n W276 (by decide) (W_n W272 (by decide) (F_n F213 (show ¬ (77 < 0) by decide) (F_n F202 (show ¬ (77 < 0) by decide) rfl)))))
                    have t_287 : (M282.2.1 77 7).toInt = (M34.2.1 77 7).toInt := congrArg Int32.toInt c_286
                    have c_288 : M282.2.1 77 6 = (M.2.1 77 6) := (W_n W281 (by decide) (W_n W276 (by decide) (W_n W272 (by decide) (F_n F213 (show ¬ (77 < 0) by decide) (F_n F202 (show ¬ (77 < 0) by decide) c_37)))))
                    have t_289 : (M282.2.1 77 6).toInt = (M.2.1 77 6).toInt := congrArg Int32.toInt c_288
                    have c_290 : M282.2.1 77 8 = (M34.2.1 77 8) := (W_n W281 (by decide) (W_n W276 (by decide) (W_n W272 (by decide) (F_n F213 (show ¬ (77 < 0) by decide) (F_n F202 (show ¬ (77 < 0) by decide) rfl)))))
                    have t_291 : (M282.2.1 77 8).toInt = (M34.2.1 77 8).toInt := congrArg Int32.toInt c_290
                    exact h (0 : Int32) M282 hG283 F284 (by decide) (by decide) (by omega) (by omega) (by omega) (by omega) (fun z => absurd z (by omega))
                  · refine to_c (pc := 18) rw_179_18 (x := (1 : Int32)) rfl rfl (to_go (pc := 19) rw_179_19 (s_r1 (pc := 23) rw_179_23 (A := 1) rfl (by decide) (b_ine_t (pc := 172) rw_225_172 (A := 1) rfl (by decide) (to_an (pc := 194) rw_225_194 rfl (to_c (pc := 195) rw_225_195 (x := (1 : Int32)) rfl rfl (s_pI (pc := 196) rw_225_196 hG214 rfl (fun M293 W292 => ?_)))))))
                    have hG294 := g_w hG214 W292 (A := 1) rfl (lo := 0) (hi := 1) rfl rfl (by omega) (by decide)
                    have F295 := FR.w F219 W292 (show 77 = 77 ∧ (68 = 4 ∨ 68 = 5 ∨ 7 ≤ 68 ∧ 68 ≤ 10) ∨ 77 = 77 ∧ (68 = 59 ∨ 65 ≤ 68 ∧ 68 ≤ 69) ∨ 112 ≤ 77 ∧ 77 ≤ 114 ∧ 40 ≤ 68 ∨ 77 = 115 ∨ 77 = 116 by decide)
                    refine to_in (pc := 199) rw_225_199 rfl (b_ine_t (pc := 200) rw_225_200 (A := 1) rfl (by decide) (to_an (pc := 213) rw_225_213 rfl (s_v (pc := 214) rw_225_214 (dp0 hd (by decide)) (ls0 := [.ref 77]) rfl (Nat.le_of_ble_eq_true rfl) (Nat.le_of_ble_eq_true rfl) rfl (to_rc rfl rfl rfl (g_o hG294 rfl)) rfl ?_)))
                    have c_296 : M293.2.1 77 7 = (M34.2.1 77 7) := (W_n W292 (by decide) (F_n F213 (show ¬ (77 < 0) by decide) (F_n F202 (show ¬ (77 < 0) by decide) rfl)))
                    have t_297 : (M293.2.1 77 7).toInt = (M34.2.1 77 7).toInt := congrArg Int32.toInt c_296
                    have c_298 : M293.2.1 77 6 = (M.2.1 77 6) := (W_n W292 (by decide) (F_n F213 (show ¬ (77 < 0) by decide) (F_n F202 (show ¬ (77 < 0) by decide) c_37)))
                    have t_299 : (M293.2.1 77 6).toInt = (M.2.1 77 6).toInt := congrArg Int32.toInt c_298
                    refine C_156 hX (dp1 hd (by decide)) hG294 (by omega)  (fun M305 hG301 F300 p_302 p_303 p_304 => ?_)
                    have F306 := FR.c F295 F300 tg_308
                    have b_307 := g_b hG301 (a := 77) (i := 7) (lo := 0) (hi := 500) rfl rfl
                    have c_308 : M305.2.1 77 6 = (M.2.1 77 6) := (F_n F300 (show ¬ (77 = 77 ∧ 7 ≤ 6 ∧ 6 ≤ 10) by decide) c_298)
                    have t_309 : (M305.2.1 77 6).toInt = (M.2.1 77 6).toInt := congrArg Int32.toInt c_308
                    have b_310 := g_b hG301 (a := 77) (i := 8) (lo := 0) (hi := 5) rfl rfl
                    refine to_an (pc := 217) rw_225_217 rfl (to_c (pc := 218) rw_225_218 (x := (0 : Int32)) rfl rfl (to_an (pc := 219) rw_225_219 rfl (s_gR (pc := 220) rw_225_220 hG301 rfl (v := 84) rfl (to_i (pc := 223) rw_225_223 rfl (s_ial (pc := 225) rw_225_225 hG301 rfl (n := 16) rfl rfl (A := r201.toInt) rfl (by omega) (by omega) (lo := 0) (hi := 24) rfl rfl (fun v311 w_312 _ _ => ?_))))))
                    have t_313 := congrArg Int32.toInt w_312
                    have j_315 := (FA_f (tg_220 F300) (FA_f (fun a i z => W_n W292 (tg_312 a i z) rfl) j_267))
                    have j_314 := FA_u j_315 (r201.toInt).toNat
                    have t_316 : (M305.2.1 81 (r201.toInt).toNat).toInt = (M.2.1 81 (r201.toInt).toNat).toInt := congrArg Int32.toInt (F_n F300 (show ¬ (81 = 77 ∧ 7 ≤ ((r201.toInt).toNat) ∧ ((r201.toInt).toNat) ≤ 10) by omega) (W_n W292 (by omega) (F_n F213 (show ¬ (81 < 0) by decide) (F_n F202 (show ¬ (81 < 0) by decide) (F_n F29 (show ¬ (81 = 77 ∧ 7 ≤ ((r201.toInt).toNat) ∧ ((r201.toInt).toNat) ≤ 10) by omega) (W_n W18 (by omega) rfl))))))
                    have t_317 : (M305.2.1 84 (r201.toInt).toNat).toInt = (M.2.1 84 (r201.toInt).toNat).toInt := congrArg Int32.toInt (F_n F300 (show ¬ (84 = 77 ∧ 7 ≤ ((r201.toInt).toNat) ∧ ((r201.toInt).toNat) ≤ 10) by omega) (W_n W292 (by omega) (F_n F213 (show ¬ (84 < 0) by decide) (F_n F202 (show ¬ (84 < 0) by decide) (F_n F29 (show ¬ (84 = 77 ∧ 7 ≤ ((r201.toInt).toNat) ∧ ((r201.toInt).toNat) ≤ 10) by omega) (W_n W18 (by omega) rfl))))))
                    refine to_c (pc := 226) rw_225_226 (x := (1 : Int32)) rfl rfl (s_sub (pc := 227) rw_225_227 (A := v311.toInt) (B := 1) rfl rfl (by omega) (fun v318 e319 => s_v (pc := 228) rw_225_228 (dp0 hd (by decide)) (ls0 := [.ref 77, .int (0 : Int32), .int v318]) rfl (Nat.le_of_ble_eq_true rfl) (Nat.le_of_ble_eq_true rfl) rfl (to_rc rfl rfl rfl (g_o hG301 rfl)) rfl (to_an (pc := 0) rw_162_0 rfl (tt_gI (pc := 1) rw_162_1 (g_o hG301 rfl) (v := (M305.2.1 77 8)) rfl (to_c (pc := 4) rw_162_4 (x := (3 : Int32)) rfl rfl (b_ceq (pc := 5) rw_162_5 (A := (M305.2.1 77 8).toInt) (B := 3) rfl rfl (fun h320 => ?_) (fun h320 => ?_)))))))
                    · refine to_an (pc := 14) rw_162_14 rfl (tt_gI (pc := 15) rw_162_15 (g_o hG301 rfl) (v := (M305.2.1 77 9)) rfl (to_in (pc := 18) rw_162_18 rfl (b_clt (pc := 19) rw_162_19 (A := (M305.2.1 77 9).toInt) (B := 0) rfl rfl (fun h321 => ?_) (fun h321 => ?_))))
                      · refine to_an (pc := 30) rw_162_30 rfl (to_c (pc := 31) rw_162_31 (x := (2 : Int32)) rfl rfl (s_v (pc := 32) rw_162_32 (dp1 hd (by decide)) (ls0 := [.ref 77, .int (2 : Int32)]) rfl (Nat.le_of_ble_eq_true rfl) (Nat.le_of_ble_eq_true rfl) rfl (to_rc rfl rfl rfl (g_o hG301 rfl)) rfl (to_an (pc := 0) rw_152_0 rfl (to_in (pc := 1) rw_152_1 rfl (s_pI (pc := 2) rw_152_2 hG301 rfl (fun M323 W322 => ?_))))))
                        have hG324 := g_wf hG301 W322 rfl rfl (by decide)
                        have F325 := FR.w F306 W322 (show 77 = 77 ∧ (4 = 4 ∨ 4 = 5 ∨ 7 ≤ 4 ∧ 4 ≤ 10) ∨ 77 = 77 ∧ (4 = 59 ∨ 65 ≤ 4 ∧ 4 ≤ 69) ∨ 112 ≤ 77 ∧ 77 ≤ 114 ∧ 40 ≤ 4 ∨ 77 = 115 ∨ 77 = 116 by decide)
                        refine to_an (pc := 5) rw_152_5 rfl (to_an (pc := 6) rw_152_6 rfl ?_)
                        have c_326 : M323.2.1 77 10 = (M305.2.1 77 10) := (W_n W322 (by decide) rfl)
                        have b_327 := g_b hG301 (a := 77) (i := 10) (lo := 0) (hi := 500) rfl rfl
                        refine tt_gI (pc := 7) rw_152_7 (g_o hG324 rfl) (v := (M305.2.1 77 10)) c_326 (s_pI (pc := 10) rw_152_10 hG324 rfl (fun M329 W328 => ?_))
                        have hG330 := g_wf hG324 W328 rfl rfl (by decide)
                        have F331 := FR.w F325 W328 (show 77 = 77 ∧ (5 = 4 ∨ 5 = 5 ∨ 7 ≤ 5 ∧ 5 ≤ 10) ∨ 77 = 77 ∧ (5 = 59 ∨ 65 ≤ 5 ∧ 5 ≤ 69) ∨ 112 ≤ 77 ∧ 77 ≤ 114 ∧ 40 ≤ 5 ∨ 77 = 115 ∨ 77 = 116 by decide)
                        refine to_c (pc := 13) rw_152_13 (x := (0 : Int32)) rfl rfl (s_r1 (pc := 14) rw_152_14 (A := 0) rfl (by decide) (b_ieq_t (pc := 35) rw_162_35 (A := 0) rfl (by decide) (to_c (pc := 42) rw_162_42 (x := (0 : Int32)) rfl rfl (s_r1 (pc := 43) rw_162_43 (A := 0) rfl (by decide) (b_ine_f (pc := 231) rw_225_231 (A := 0) rfl (by decide) (to_c (pc := 234) rw_225_234 (x := (0 : Int32)) rfl rfl (s_r1 (pc := 235) rw_225_235 (A := 0) rfl (by decide) ?_)))))))
                        have k_332 : (0 : Int32).toInt = 0 := rfl
                        have c_333 : M329.2.1 77 7 = (M305.2.1 77 7) := (W_n W328 (by decide) (W_n W322 (by decide) rfl))
                        have t_334 : (M329.2.1 77 7).toInt = (M305.2.1 77 7).toInt := congrArg Int32.toInt c_333
                        have c_335 : M329.2.1 77 6 = (M.2.1 77 6) := (W_n W328 (by decide) (W_n W322 (by decide) c_308))
                        have t_336 : (M329.2.1 77 6).toInt = (M.2.1 77 6).toInt := congrArg Int32.toInt c_335
                        have c_337 : M329.2.1 77 8 = (M305.2.1 77 8) := (W_n W328 (by decide) (W_n W322 (by decide) rfl))
                        have t_338 : (M329.2.1 77 8).toInt = (M305.2.1 77 8).toInt := congrArg Int32.toInt c_337
                        exact h (0 : Int32) M329 hG330 F331 (by decide) (by decide) (by omega) (by omega) (by omega) (by omega) (fun z => absurd z (by omega))
                      · refine to_an (pc := 22) rw_162_22 rfl (tt_gI (pc := 23) rw_162_23 (g_o hG301 rfl) (v := (M305.2.1 77 9)) rfl (to_in (pc := 26) rw_162_26 rfl (b_cle (pc := 27) rw_162_27 (A := (M305.2.1 77 9).toInt) (B := v318.toInt) rfl rfl (fun h339 => ?_) (fun h339 => ?_))))
                        · refine to_c (pc := 38) rw_162_38 (x := (1 : Int32)) rfl rfl (to_go (pc := 39) rw_162_39 (s_r1 (pc := 43) rw_162_43 (A := 1) rfl (by decide) (b_ine_t (pc := 231) rw_225_231 (A := 1) rfl (by decide) (to_an (pc := 236) rw_225_236 rfl (to_c (pc := 237) rw_225_237 (x := (0 : Int32)) rfl rfl (to_i (pc := 238) rw_225_238 rfl (to_an (pc := 240) rw_225_240 rfl (tt_gI (pc := 241) rw_225_241 (g_o hG301 rfl) (v := (M305.2.1 77 9)) rfl (s_v (pc := 244) rw_225_244 (dp0 hd (by decide)) (ls0 := [.ref 77, .int (0 : Int32), .int r201, .int (M305.2.1 77 9)]) rfl (Nat.le_of_ble_eq_true rfl) (Nat.le_of_ble_eq_true rfl) rfl (to_rc rfl rfl rfl (g_o hG301 rfl)) rfl ?_)))))))))
                          have k_340 : (0 : Int32).toInt = 0 := rfl
                          have c_341 : M305.2.1 77 59 = (M.2.1 77 59) := (F_n F300 (show ¬ (77 = 77 ∧ 7 ≤ 59 ∧ 59 ≤ 10) by decide) (W_n W292 (by decide) (F_n F213 (show ¬ (77 < 0) by decide) (F_n F202 (show ¬ (77 < 0) by decide) (F_n F29 (show ¬ (77 = 77 ∧ 7 ≤ 59 ∧ 59 ≤ 10) by decide) (W_n W18 (by decide) rfl))))))
                          have t_342 : (M305.2.1 77 59).toInt = (M.2.1 77 59).toInt := congrArg Int32.toInt c_341
                          have c_343 : M305.2.1 77 66 = (M.2.1 77 66) := (F_n F300 (show ¬ (77 = 77 ∧ 7 ≤ 66 ∧ 66 ≤ 10) by decide) (W_n W292 (by decide) (F_n F213 (show ¬ (77 < 0) by decide) (F_n F202 (show ¬ (77 < 0) by decide) (F_n F29 (show ¬ (77 = 77 ∧ 7 ≤ 66 ∧ 66 ≤ 10) by decide) (W_n W18 (by decide) rfl))))))
                          have t_344 : (M305.2.1 77 66).toInt = (M.2.1 77 66).toInt := congrArg Int32.toInt c_343
                          have t_345 : (M305.2.1 81 (r201.toInt).toNat).toInt = (M.2.1 81 (r201.toInt).toNat).toInt := congrArg Int32.toInt (F_n F300 (show ¬ (81 = 77 ∧ 7 ≤ ((r201.toInt).toNat) ∧ ((r201.toInt).toNat) ≤ 10) by omega) (W_n W292 (by omega) (F_n F213 (show ¬ (81 < 0) by decide) (F_n F202 (show ¬ (81 < 0) by decide) (F_n F29 (show ¬ (81 = 77 ∧ 7 ≤ ((r201.toInt).toNat) ∧ ((r201.toInt).toNat) ≤ 10) by omega) (W_n W18 (by omega) rfl))))))
                          refine C_221 hX (dp1 hd (by decide)) hG301 (by omega) (by omega) (by omega) (by omega) (by omega) (by omega) (by rw [(F_n F300 (show ¬ (77 = 77 ∧ 7 ≤ 59 ∧ 59 ≤ 10) by decide) (W_n W292 (by omega) (F_n F213 (show ¬ (77 < 0) by decide) (F_n F202 (show ¬ (77 < 0) by decide) (F_n F29 (show ¬ (77 = 77 ∧ 7 ≤ 59 ∧ 59 ≤ 10) by decide) (W_n W18 (by omega) rfl))))))]; exact KN_f (fun a i z => (F_n F300 (show ¬ (a = 77 ∧ 7 ≤ i ∧ i ≤ 10) by omega) (W_n W292 (by /-r77,68-/ omega) (F_n F213 (show ¬ (a < 0) by omega) (F_n F202 (show ¬ (a < 0) by omega) (F_n F29 (show ¬ (a = 77 ∧ 7 ≤ i ∧ i ≤ 10) by omega) (W_n W18 (by /-r77,69-/ omega) rfl))))))) q2.2.2) (by omega) (by omega) (by omega) (by omega) (k := (0 : Int32)) (p := r201) (o := (M305.2.1 77 9)) (fun M351 hG347 F346 p_348 p_349 p_350 => ?_)
                          have F352 := FR.c F306 F346 tg_310
                          have b_353 := g_b hG347 (a := 77) (i := 59) (lo := 0) (hi := 40) rfl rfl
                          have b_354 := g_b hG347 (a := 77) (i := 66) (lo := 0) (hi := 40) rfl rfl
                          refine to_an (pc := 247) rw_225_247 rfl (s_v (pc := 248) rw_225_248 (dp0 hd (by decide)) (ls0 := [.ref 77]) rfl (Nat.le_of_ble_eq_true rfl) (Nat.le_of_ble_eq_true rfl) rfl (to_rc rfl rfl rfl (g_o hG347 rfl)) rfl ?_)
                          have c_355 : M351.2.1 77 7 = (M305.2.1 77 7) := (F_n F346 (show ¬ (77 = 77 ∧ (7 = 59 ∨ 7 = 66) ∨ 112 ≤ 77 ∧ 77 ≤ 114 ∧ 40 ≤ 7 ∨ 77 = 116) by decide) rfl)
                          have t_356 : (M351.2.1 77 7).toInt = (M305.2.1 77 7).toInt := congrArg Int32.toInt c_355
                          have c_357 : M351.2.1 77 6 = (M.2.1 77 6) := (F_n F346 (show ¬ (77 = 77 ∧ (6 = 59 ∨ 6 = 66) ∨ 112 ≤ 77 ∧ 77 ≤ 114 ∧ 40 ≤ 6 ∨ 77 = 116) by decide) c_308)
                          have t_358 : (M351.2.1 77 6).toInt = (M.2.1 77 6).toInt := congrArg Int32.toInt c_357
                          refine C_156 hX (dp1 hd (by decide)) hG347 (by omega)  (fun M364 hG360 F359 p_361 p_362 p_363 => ?_)
                          have F365 := FR.c F352 F359 tg_308
                          have b_366 := g_b hG360 (a := 77) (i := 7) (lo := 0) (hi := 500) rfl rfl
                          have c_367 : M364.2.1 77 6 = (M.2.1 77 6) := (F_n F359 (show ¬ (77 = 77 ∧ 7 ≤ 6 ∧ 6 ≤ 10) by decide) c_357)
                          have t_368 : (M364.2.1 77 6).toInt = (M.2.1 77 6).toInt := congrArg Int32.toInt c_367
                          have b_369 := g_b hG360 (a := 77) (i := 8) (lo := 0) (hi := 5) rfl rfl
                          refine to_c (pc := 251) rw_225_251 (x := (1 : Int32)) rfl rfl (s_r1 (pc := 252) rw_225_252 (A := 1) rfl (by decide) ?_)
                          have k_370 : (1 : Int32).toInt = 1 := rfl
                          have c_371 : M364.2.1 77 59 = (M351.2.1 77 59) := (F_n F359 (show ¬ (77 = 77 ∧ 7 ≤ 59 ∧ 59 ≤ 10) by decide) rfl)
                          have t_372 : (M364.2.1 77 59).toInt = (M351.2.1 77 59).toInt := congrArg Int32.toInt c_371
                          have c_373 : M364.2.1 77 65 = (M.2.1 77 65) := (F_n F359 (show ¬ (77 = 77 ∧ 7 ≤ 65 ∧ 65 ≤ 10) by decide) (F_n F346 (show ¬ (77 = 77 ∧ (65 = 59 ∨ 65 = 66) ∨ 112 ≤ 77 ∧ 77 ≤ 114 ∧ 40 ≤ 65 ∨ 77 = 116) by decide) (F_n F300 (show ¬ (77 = 77 ∧ 7 ≤ 65 ∧ 65 ≤ 10) by decide) (W_n W292 (by decide) (F_n F213 (show ¬ (77 < 0) by decide) (F_n F202 (show ¬ (77 < 0) by decide) (F_n F29 (show ¬ (77 = 77 ∧ 7 ≤ 65 ∧ 65 ≤ 10) by decide) (W_n W18 (by decide) rfl))))))))
                          have t_374 : (M364.2.1 77 65).toInt = (M.2.1 77 65).toInt := congrArg Int32.toInt c_373
                          have c_375 : M364.2.1 77 66 = (M351.2.1 77 66) := (F_n F359 (show ¬ (77 = 77 ∧ 7 ≤ 66 ∧ 66 ≤ 10) by decide) rfl)
                          have t_376 : (M364.2.1 77 66).toInt = (M351.2.1 77 66).toInt := congrArg Int32.toInt c_375
                          have c_377 : M364.2.1 77 67 = (M.2.1 77 67) := (F_n F359 (show ¬ (77 = 77 ∧ 7 ≤ 67 ∧ 67 ≤ 10) by decide) (F_n F346 (show ¬ (77 = 77 ∧ (67 = 59 ∨ 67 = 66) ∨ 112 ≤ 77 ∧ 77 ≤ 114 ∧ 40 ≤ 67 ∨ 77 = 116) by decide) (F_n F300 (show ¬ (77 = 77 ∧ 7 ≤ 67 ∧ 67 ≤ 10) by decide) (W_n W292 (by decide) (F_n F213 (show ¬ (77 < 0) by decide) (F_n F202 (show ¬ (77 < 0) by decide) (F_n F29 (show ¬ (77 = 77 ∧ 7 ≤ 67 ∧ 67 ≤ 10) by decide) (W_n W18 (by decide) rfl))))))))
                          have t_378 : (M364.2.1 77 67).toInt = (M.2.1 77 67).toInt := congrArg Int32.toInt c_377
                          have c_379 : M364.2.1 77 68 = (1 : Int32) := (F_n F359 (show ¬ (77 = 77 ∧ 7 ≤ 68 ∧ 68 ≤ 10) by decide) (F_n F346 (show ¬ (77 = 77 ∧ (68 = 59 ∨ 68 = 66) ∨ 112 ≤ 77 ∧ 77 ≤ 114 ∧ 40 ≤ 68 ∨ 77 = 116) by decide) (F_n F300 (show ¬ (77 = 77 ∧ 7 ≤ 68 ∧ 68 ≤ 10) by decide) (W_e W292))))
                          have t_380 : (M364.2.1 77 68).toInt = (1 : Int32).toInt := congrArg Int32.toInt c_379
                          have c_381 : M364.2.1 77 69 = v16 := (F_n F359 (show ¬ (77 = 77 ∧ 7 ≤ 69 ∧ 69 ≤ 10) by decide) (F_n F346 (show ¬ (77 = 77 ∧ (69 = 59 ∨ 69 = 66) ∨ 112 ≤ 77 ∧ 77 ≤ 114 ∧ 40 ≤ 69 ∨ 77 = 116) by decide) (F_n F300 (show ¬ (77 = 77 ∧ 7 ≤ 69 ∧ 69 ≤ 10) by decide) (W_n W292 (by decide) (F_n F213 (show ¬ (77 < 0) by decide) (F_n F202 (show ¬ (77 < 0) by decide) (F_n F29 (show ¬ (77 = 77 ∧ 7 ≤ 69 ∧ 69 ≤ 10) by decide) (W_e W18))))))))
                          have t_382 : (M364.2.1 77 69).toInt = v16.toInt := congrArg Int32.toInt c_381
                          have s_384 := Wx_f (M := M) (M1 := M364) ((M.2.1 77 65).toInt).toNat (fun i z => (F_n F359 (show ¬ (115 = 77 ∧ 7 ≤ i ∧ i ≤ 10) by omega) (F_n F346 (show ¬ (115 = 77 ∧ (i = 59 ∨ i = 66) ∨ 112 ≤ 115 ∧ 115 ≤ 114 ∧ 40 ≤ i ∨ 115 = 116) by omega) (F_n F300 (show ¬ (115 = 77 ∧ 7 ≤ i ∧ i ≤ 10) by omega) (W_n W292 (by omega) (F_n F213 (show ¬ (115 < 0) by decide) (F_n F202 (show ¬ (115 < 0) by decide) (F_n F29 (show ¬ (115 = 77 ∧ 7 ≤ i ∧ i ≤ 10) by omega) (W_n W18 (by omega) rfl)))))))))
                          have j_383 : QK M364 := QK_i (by unfold QK_c; rw [show ((M364.2.1 77 65).toInt).toNat = ((M.2.1 77 65).toInt).toNat by omega]; refine ⟨by omega, by omega, by omega, by omega⟩) (fun i z => by rw [(F_n F359 (show ¬ (115 = 77 ∧ 7 ≤ i ∧ i ≤ 10) by omega) (F_n F346 (show ¬ (115 = 77 ∧ (i = 59 ∨ i = 66) ∨ 112 ≤ 115 ∧ 115 ≤ 114 ∧ 40 ≤ i ∨ 115 = 116) by omega) (F_n F300 (show ¬ (115 = 77 ∧ 7 ≤ i ∧ i ≤ 10) by omega) (W_n W292 (by omega) (F_n F213 (show ¬ (115 < 0) by decide) (F_n F202 (show ¬ (115 < 0) by decide) (F_n F29 (show ¬ (115 = 77 ∧ 7 ≤ i ∧ i ≤ 10) by omega) (W_n W18 (by omega) rfl))))))))]; exact q2.2.1 i (by omega)) (by rw [(F_n F359 (show ¬ (77 = 77 ∧ 7 ≤ 59 ∧ 59 ≤ 10) by decide) rfl)]; exact KN_f (fun a i z => (F_n F359 (show ¬ (a = 77 ∧ 7 ≤ i ∧ i ≤ 10) by omega) rfl)) p_350)
                          exact h (1 : Int32) M364 hG360 F365 (by decide) (by decide) (by omega) (by omega) (by omega) (by omega) (fun _ => j_383)
                        · refine to_an (pc := 30) rw_162_30 rfl (to_c (pc := 31) rw_162_31 (x := (2 : Int32)) rfl rfl (s_v (pc := 32) rw_162_32 (dp1 hd (by decide)) (ls0 := [.ref 77, .int (2 : Int32)]) rfl (Nat.le_of_ble_eq_true rfl) (Nat.le_of_ble_eq_true rfl) rfl (to_rc rfl rfl rfl (g_o hG301 rfl)) rfl (to_an (pc := 0) rw_152_0 rfl (to_in (pc := 1) rw_152_1 rfl (s_pI (pc := 2) rw_152_2 hG301 rfl (fun M386 W385 => ?_))))))
                          have hG387 := g_wf hG301 W385 rfl rfl (by decide)
                          have F388 := FR.w F306 W385 (show 77 = 77 ∧ (4 = 4 ∨ 4 = 5 ∨ 7 ≤ 4 ∧ 4 ≤ 10) ∨ 77 = 77 ∧ (4 = 59 ∨ 65 ≤ 4 ∧ 4 ≤ 69) ∨ 112 ≤ 77 ∧ 77 ≤ 114 ∧ 40 ≤ 4 ∨ 77 = 115 ∨ 77 = 116 by decide)
                          refine to_an (pc := 5) rw_152_5 rfl (to_an (pc := 6) rw_152_6 rfl ?_)
                          have c_389 : M386.2.1 77 10 = (M305.2.1 77 10) := (W_n W385 (by decide) rfl)
                          have b_390 := g_b hG301 (a := 77) (i := 10) (lo := 0) (hi := 500) rfl rfl
                          refine tt_gI (pc := 7) rw_152_7 (g_o hG387 rfl) (v := (M305.2.1 77 10)) c_389 (s_pI (pc := 10) rw_152_10 hG387 rfl (fun M392 W391 => ?_))
                          have hG393 := g_wf hG387 W391 rfl rfl (by decide)
                          have F394 := FR.w F388 W391 (show 77 = 77 ∧ (5 = 4 ∨ 5 = 5 ∨ 7 ≤ 5 ∧ 5 ≤ 10) ∨ 77 = 77 ∧ (5 = 59 ∨ 65 ≤ 5 ∧ 5 ≤ 69) ∨ 112 ≤ 77 ∧ 77 ≤ 114 ∧ 40 ≤ 5 ∨ 77 = 115 ∨ 77 = 116 by decide)
                          refine to_c (pc := 13) rw_152_13 (x := (0 : Int32)) rfl rfl (s_r1 (pc := 14) rw_152_14 (A := 0) rfl (by decide) (b_ieq_t (pc := 35) rw_162_35 (A := 0) rfl (by decide) (to_c (pc := 42) rw_162_42 (x := (0 : Int32)) rfl rfl (s_r1 (pc := 43) rw_162_43 (A := 0) rfl (by decide) (b_ine_f (pc := 231) rw_225_231 (A := 0) rfl (by decide) (to_c (pc := 234) rw_225_234 (x := (0 : Int32)) rfl rfl (s_r1 (pc := 235) rw_225_235 (A := 0) rfl (by decide) ?_)))))))
                          have k_395 : (0 : Int32).toInt = 0 := rfl
                          have c_396 : M392.2.1 77 7 = (M305.2.1 77 7) := (W_n W391 (by decide) (W_n W385 (by decide) rfl))
                          have t_397 : (M392.2.1 77 7).toInt = (M305.2.1 77 7).toInt := congrArg Int32.toInt c_396
                          have c_398 : M392.2.1 77 6 = (M.2.1 77 6) := (W_n W391 (by decide) (W_n W385 (by decide) c_308))
                          have t_399 : (M392.2.1 77 6).toInt = (M.2.1 77 6).toInt := congrArg Int32.toInt c_398
                          have c_400 : M392.2.1 77 8 = (M305.2.1 77 8) := (W_n W391 (by decide) (W_n W385 (by decide) rfl))
                          have t_401 : (M392.2.1 77 8).toInt = (M305.2.1 77 8).toInt := congrArg Int32.toInt c_400
                          exact h (0 : Int32) M392 hG393 F394 (by decide) (by decide) (by omega) (by omega) (by omega) (by omega) (fun z => absurd z (by omega))
                    · refine to_an (pc := 8) rw_162_8 rfl (to_c (pc := 9) rw_162_9 (x := (1 : Int32)) rfl rfl (s_v (pc := 10) rw_162_10 (dp1 hd (by decide)) (ls0 := [.ref 77, .int (1 : Int32)]) rfl (Nat.le_of_ble_eq_true rfl) (Nat.le_of_ble_eq_true rfl) rfl (to_rc rfl rfl rfl (g_o hG301 rfl)) rfl (to_an (pc := 0) rw_152_0 rfl (to_in (pc := 1) rw_152_1 rfl (s_pI (pc := 2) rw_152_2 hG301 rfl (fun M403 W402 => ?_))))))
                      have hG404 := g_wf hG301 W402 rfl rfl (by decide)
                      have F405 := FR.w F306 W402 (show 77 = 77 ∧ (4 = 4 ∨ 4 = 5 ∨ 7 ≤ 4 ∧ 4 ≤ 10) ∨ 77 = 77 ∧ (4 = 59 ∨ 65 ≤ 4 ∧ 4 ≤ 69) ∨ 112 ≤ 77 ∧ 77 ≤ 114 ∧ 40 ≤ 4 ∨ 77 = 115 ∨ 77 = 116 by decide)
                      refine to_an (pc := 5) rw_152_5 rfl (to_an (pc := 6) rw_152_6 rfl ?_)
                      have c_406 : M403.2.1 77 10 = (M305.2.1 77 10) := (W_n W402 (by decide) rfl)
                      have b_407 := g_b hG301 (a := 77) (i := 10) (lo := 0) (hi := 500) rfl rfl
                      refine tt_gI (pc := 7) rw_152_7 (g_o hG404 rfl) (v := (M305.2.1 77 10)) c_406 (s_pI (pc := 10) rw_152_10 hG404 rfl (fun M409 W408 => ?_))
                      have hG410 := g_wf hG404 W408 rfl rfl (by decide)
                      have F411 := FR.w F405 W408 (show 77 = 77 ∧ (5 = 4 ∨ 5 = 5 ∨ 7 ≤ 5 ∧ 5 ≤ 10) ∨ 77 = 77 ∧ (5 = 59 ∨ 65 ≤ 5 ∧ 5 ≤ 69) ∨ 112 ≤ 77 ∧ 77 ≤ 114 ∧ 40 ≤ 5 ∨ 77 = 115 ∨ 77 = 116 by decide)
                      refine to_c (pc := 13) rw_152_13 (x := (0 : Int32)) rfl rfl (s_r1 (pc := 14) rw_152_14 (A := 0) rfl (by decide) (s_r1 (pc := 13) rw_162_13 (A := 0) rfl (by decide) (b_ine_f (pc := 231) rw_225_231 (A := 0) rfl (by decide) (to_c (pc := 234) rw_225_234 (x := (0 : Int32)) rfl rfl (s_r1 (pc := 235) rw_225_235 (A := 0) rfl (by decide) ?_)))))
                      have k_412 : (0 : Int32).toInt = 0 := rfl
                      have c_413 : M409.2.1 77 7 = (M305.2.1 77 7) := (W_n W408 (by decide) (W_n W402 (by decide) rfl))
                      have t_414 : (M409.2.1 77 7).toInt = (M305.2.1 77 7).toInt := congrArg Int32.toInt c_413
                      have c_415 : M409.2.1 77 6 = (M.2.1 77 6) := (W_n W408 (by decide) (W_n W402 (by decide) c_308))
                      have t_416 : (M409.2.1 77 6).toInt = (M.2.1 77 6).toInt := congrArg Int32.toInt c_415
                      have c_417 : M409.2.1 77 8 = (M305.2.1 77 8) := (W_n W408 (by decide) (W_n W402 (by decide) rfl))
                      have t_418 : (M409.2.1 77 8).toInt = (M305.2.1 77 8).toInt := congrArg Int32.toInt c_417
                      exact h (0 : Int32) M409 hG410 F411 (by decide) (by decide) (by omega) (by omega) (by omega) (by omega) (fun z => absurd z (by omega))
        · refine to_an (pc := 9) rw_224_9 rfl (to_c (pc := 10) rw_224_10 (x := (2 : Int32)) rfl rfl (s_v (pc := 11) rw_224_11 (dp1 hd (by decide)) (ls0 := [.ref 77, .int (2 : Int32)]) rfl (Nat.le_of_ble_eq_true rfl) (Nat.le_of_ble_eq_true rfl) rfl (to_rc rfl rfl rfl (g_o hG rfl)) rfl (to_an (pc := 0) rw_152_0 rfl (to_in (pc := 1) rw_152_1 rfl (s_pI (pc := 2) rw_152_2 hG rfl (fun M420 W419 => ?_))))))
          have hG421 := g_wf hG W419 rfl rfl (by decide)
          have F422 := FR.w F0 W419 (show 77 = 77 ∧ (4 = 4 ∨ 4 = 5 ∨ 7 ≤ 4 ∧ 4 ≤ 10) ∨ 77 = 77 ∧ (4 = 59 ∨ 65 ≤ 4 ∧ 4 ≤ 69) ∨ 112 ≤ 77 ∧ 77 ≤ 114 ∧ 40 ≤ 4 ∨ 77 = 115 ∨ 77 = 116 by decide)
          refine to_an (pc := 5) rw_152_5 rfl (to_an (pc := 6) rw_152_6 rfl ?_)
          have c_423 : M420.2.1 77 10 = (M.2.1 77 10) := (W_n W419 (by decide) rfl)
          have b_424 := g_b hG (a := 77) (i := 10) (lo := 0) (hi := 500) rfl rfl
          refine tt_gI (pc := 7) rw_152_7 (g_o hG421 rfl) (v := (M.2.1 77 10)) c_423 (s_pI (pc := 10) rw_152_10 hG421 rfl (fun M426 W425 => ?_))
          have hG427 := g_wf hG421 W425 rfl rfl (by decide)
          have F428 := FR.w F422 W425 (show 77 = 77 ∧ (5 = 4 ∨ 5 = 5 ∨ 7 ≤ 5 ∧ 5 ≤ 10) ∨ 77 = 77 ∧ (5 = 59 ∨ 65 ≤ 5 ∧ 5 ≤ 69) ∨ 112 ≤ 77 ∧ 77 ≤ 114 ∧ 40 ≤ 5 ∨ 77 = 115 ∨ 77 = 116 by decide)
          refine to_c (pc := 13) rw_152_13 (x := (0 : Int32)) rfl rfl (s_r1 (pc := 14) rw_152_14 (A := 0) rfl (by decide) (s_r1 (pc := 14) rw_224_14 (A := 0) rfl (by decide) (b_ine_f (pc := 122) rw_225_122 (A := 0) rfl (by decide) (to_c (pc := 125) rw_225_125 (x := (0 : Int32)) rfl rfl (s_r1 (pc := 126) rw_225_126 (A := 0) rfl (by decide) ?_)))))
          have k_429 : (0 : Int32).toInt = 0 := rfl
          have c_430 : M426.2.1 77 7 = (M.2.1 77 7) := (W_n W425 (by decide) (W_n W419 (by decide) rfl))
          have t_431 : (M426.2.1 77 7).toInt = (M.2.1 77 7).toInt := congrArg Int32.toInt c_430
          have c_432 : M426.2.1 77 6 = (M.2.1 77 6) := (W_n W425 (by decide) (W_n W419 (by decide) rfl))
          have t_433 : (M426.2.1 77 6).toInt = (M.2.1 77 6).toInt := congrArg Int32.toInt c_432
          have c_434 : M426.2.1 77 8 = (M.2.1 77 8) := (W_n W425 (by decide) (W_n W419 (by decide) rfl))
          have t_435 : (M426.2.1 77 8).toInt = (M.2.1 77 8).toInt := congrArg Int32.toInt c_434
          exact h (0 : Int32) M426 hG427 F428 (by decide) (by decide) (by omega) (by omega) (by omega) (by omega) (fun z => absurd z (by omega))
      · refine to_an (pc := 112) rw_225_112 rfl (to_c (pc := 113) rw_225_113 (x := (1 : Int32)) rfl rfl (s_v (pc := 114) rw_225_114 (dp0 hd (by decide)) (ls0 := [.ref 77, .int (1 : Int32)]) rfl (Nat.le_of_ble_eq_true rfl) (Nat.le_of_ble_eq_true rfl) rfl (to_rc rfl rfl rfl (g_o hG rfl)) rfl (to_an (pc := 0) rw_152_0 rfl (to_in (pc := 1) rw_152_1 rfl (s_pI (pc := 2) rw_152_2 hG rfl (fun M437 W436 => ?_))))))
        have hG438 := g_wf hG W436 rfl rfl (by decide)
        have F439 := FR.w F0 W436 (show 77 = 77 ∧ (4 = 4 ∨ 4 = 5 ∨ 7 ≤ 4 ∧ 4 ≤ 10) ∨ 77 = 77 ∧ (4 = 59 ∨ 65 ≤ 4 ∧ 4 ≤ 69) ∨ 112 ≤ 77 ∧ 77 ≤ 114 ∧ 40 ≤ 4 ∨ 77 = 115 ∨ 77 = 116 by decide)
        refine to_an (pc := 5) rw_152_5 rfl (to_an (pc := 6) rw_152_6 rfl ?_)
        have c_440 : M437.2.1 77 10 = (M.2.1 77 10) := (W_n W436 (by decide) rfl)
        have b_441 := g_b hG (a := 77) (i := 10) (lo := 0) (hi := 500) rfl rfl
        refine tt_gI (pc := 7) rw_152_7 (g_o hG438 rfl) (v := (M.2.1 77 10)) c_440 (s_pI (pc := 10) rw_152_10 hG438 rfl (fun M443 W442 => ?_))
        have hG444 := g_wf hG438 W442 rfl rfl (by decide)
        have F445 := FR.w F439 W442 (show 77 = 77 ∧ (5 = 4 ∨ 5 = 5 ∨ 7 ≤ 5 ∧ 5 ≤ 10) ∨ 77 = 77 ∧ (5 = 59 ∨ 65 ≤ 5 ∧ 5 ≤ 69) ∨ 112 ≤ 77 ∧ 77 ≤ 114 ∧ 40 ≤ 5 ∨ 77 = 115 ∨ 77 = 116 by decide)
        refine to_c (pc := 13) rw_152_13 (x := (0 : Int32)) rfl rfl (s_r1 (pc := 14) rw_152_14 (A := 0) rfl (by decide) (s_r1 (pc := 117) rw_225_117 (A := 0) rfl (by decide) ?_))
        have k_446 : (0 : Int32).toInt = 0 := rfl
        have c_447 : M443.2.1 77 7 = (M.2.1 77 7) := (W_n W442 (by decide) (W_n W436 (by decide) rfl))
        have t_448 : (M443.2.1 77 7).toInt = (M.2.1 77 7).toInt := congrArg Int32.toInt c_447
        have c_449 : M443.2.1 77 6 = (M.2.1 77 6) := (W_n W442 (by decide) (W_n W436 (by decide) rfl))
        have t_450 : (M443.2.1 77 6).toInt = (M.2.1 77 6).toInt := congrArg Int32.toInt c_449
        have c_451 : M443.2.1 77 8 = (M.2.1 77 8) := (W_n W442 (by decide) (W_n W436 (by decide) rfl))
        have t_452 : (M443.2.1 77 8).toInt = (M.2.1 77 8).toInt := congrArg Int32.toInt c_451
        exact h (0 : Int32) M443 hG444 F445 (by decide) (by decide) (by omega) (by omega) (by omega) (by omega) (fun z => absurd z (by omega))
    · refine to_an (pc := 8) rw_158_8 rfl (tt_gI (pc := 9) rw_158_9 (g_o hG rfl) (v := (M.2.1 77 9)) rfl (to_in (pc := 12) rw_158_12 rfl (b_cne (pc := 13) rw_158_13 (A := (M.2.1 77 9).toInt) (B := 14) rfl rfl (fun h453 => ?_) (fun h453 => ?_))))
      · refine to_c (pc := 20) rw_158_20 (x := (0 : Int32)) rfl rfl (s_r1 (pc := 21) rw_158_21 (A := 0) rfl (by decide) (b_ieq_t (pc := 66) rw_225_66 (A := 0) rfl (by decide) (to_an (pc := 104) rw_225_104 rfl (tt_gI (pc := 105) rw_225_105 (g_o hG rfl) (v := (M.2.1 77 8)) rfl (to_c (pc := 108) rw_225_108 (x := (2 : Int32)) rfl rfl (b_ceq_f (pc := 109) rw_225_109 (A := (M.2.1 77 8).toInt) (B := 2) rfl rfl (by omega) (to_an (pc := 112) rw_225_112 rfl (to_c (pc := 113) rw_225_113 (x := (1 : Int32)) rfl rfl (s_v (pc := 114) rw_225_114 (dp0 hd (by decide)) (ls0 := [.ref 77, .int (1 : Int32)]) rfl (Nat.le_of_ble_eq_true rfl) (Nat.le_of_ble_eq_true rfl) rfl (to_rc rfl rfl rfl (g_o hG rfl)) rfl (to_an (pc := 0) rw_152_0 rfl (to_in (pc := 1) rw_152_1 rfl ?_)))))))))))
        refine s_pI (pc := 2) rw_152_2 hG rfl (fun M455 W454 => ?_)
        have hG456 := g_wf hG W454 rfl rfl (by decide)
        have F457 := FR.w F0 W454 (show 77 = 77 ∧ (4 = 4 ∨ 4 = 5 ∨ 7 ≤ 4 ∧ 4 ≤ 10) ∨ 77 = 77 ∧ (4 = 59 ∨ 65 ≤ 4 ∧ 4 ≤ 69) ∨ 112 ≤ 77 ∧ 77 ≤ 114 ∧ 40 ≤ 4 ∨ 77 = 115 ∨ 77 = 116 by decide)
        refine to_an (pc := 5) rw_152_5 rfl (to_an (pc := 6) rw_152_6 rfl ?_)
        have c_458 : M455.2.1 77 10 = (M.2.1 77 10) := (W_n W454 (by decide) rfl)
        have b_459 := g_b hG (a := 77) (i := 10) (lo := 0) (hi := 500) rfl rfl
        refine tt_gI (pc := 7) rw_152_7 (g_o hG456 rfl) (v := (M.2.1 77 10)) c_458 (s_pI (pc := 10) rw_152_10 hG456 rfl (fun M461 W460 => ?_))
        have hG462 := g_wf hG456 W460 rfl rfl (by decide)
        have F463 := FR.w F457 W460 (show 77 = 77 ∧ (5 = 4 ∨ 5 = 5 ∨ 7 ≤ 5 ∧ 5 ≤ 10) ∨ 77 = 77 ∧ (5 = 59 ∨ 65 ≤ 5 ∧ 5 ≤ 69) ∨ 112 ≤ 77 ∧ 77 ≤ 114 ∧ 40 ≤ 5 ∨ 77 = 115 ∨ 77 = 116 by decide)
        refine to_c (pc := 13) rw_152_13 (x := (0 : Int32)) rfl rfl (s_r1 (pc := 14) rw_152_14 (A := 0) rfl (by decide) (s_r1 (pc := 117) rw_225_117 (A := 0) rfl (by decide) ?_))
        have k_464 : (0 : Int32).toInt = 0 := rfl
        have c_465 : M461.2.1 77 7 = (M.2.1 77 7) := (W_n W460 (by decide) (W_n W454 (by decide) rfl))
        have t_466 : (M461.2.1 77 7).toInt = (M.2.1 77 7).toInt := congrArg Int32.toInt c_465
        have c_467 : M461.2.1 77 6 = (M.2.1 77 6) := (W_n W460 (by decide) (W_n W454 (by decide) rfl))
        have t_468 : (M461.2.1 77 6).toInt = (M.2.1 77 6).toInt := congrArg Int32.toInt c_467
        have c_469 : M461.2.1 77 8 = (M.2.1 77 8) := (W_n W460 (by decide) (W_n W454 (by decide) rfl))
        have t_470 : (M461.2.1 77 8).toInt = (M.2.1 77 8).toInt := congrArg Int32.toInt c_469
        exact h (0 : Int32) M461 hG462 F463 (by decide) (by decide) (by omega) (by omega) (by omega) (by omega) (fun z => absurd z (by omega))
      · refine to_c (pc := 16) rw_158_16 (x := (1 : Int32)) rfl rfl (to_go (pc := 17) rw_158_17 (s_r1 (pc := 21) rw_158_21 (A := 1) rfl (by decide) (b_ieq_f (pc := 66) rw_225_66 (A := 1) rfl (by decide) (to_an (pc := 69) rw_225_69 rfl (s_v (pc := 70) rw_225_70 (dp0 hd (by decide)) (ls0 := [.ref 77]) rfl (Nat.le_of_ble_eq_true rfl) (Nat.le_of_ble_eq_true rfl) rfl (to_rc rfl rfl rfl (g_o hG rfl)) rfl (to_an (pc := 0) rw_224_0 rfl (tt_gI (pc := 1) rw_224_1 (g_o hG rfl) (v := (M.2.1 77 69)) rfl (to_c (pc := 4) rw_224_4 (x := (40 : Int32)) rfl rfl (b_cne (pc := 6) rw_224_6 (A := (M.2.1 77 69).toInt) (B := 40) rfl rfl (fun h471 => ?_) (fun h471 => ?_))))))))))
        · refine to_an (pc := 15) rw_224_15 rfl (to_dupr (pc := 16) rw_224_16 (tt_gI (pc := 17) rw_224_17 (g_o hG rfl) (v := (M.2.1 77 69)) rfl (to_c (pc := 20) rw_224_20 (x := (1 : Int32)) rfl rfl (s_add (pc := 21) rw_224_21 (A := (M.2.1 77 69).toInt) (B := 1) rfl rfl (by omega) (fun v472 e473 => s_pI (pc := 22) rw_224_22 hG rfl (fun M475 W474 => ?_))))))
          have hG476 := g_w hG W474 (A := v472.toInt) rfl (lo := 0) (hi := 40) rfl rfl (by omega) (by decide)
          have F477 := FR.w F0 W474 (show 77 = 77 ∧ (69 = 4 ∨ 69 = 5 ∨ 7 ≤ 69 ∧ 69 ≤ 10) ∨ 77 = 77 ∧ (69 = 59 ∨ 65 ≤ 69 ∧ 69 ≤ 69) ∨ 112 ≤ 77 ∧ 77 ≤ 114 ∧ 40 ≤ 69 ∨ 77 = 115 ∨ 77 = 116 by decide)
          refine to_c (pc := 25) rw_224_25 (x := (1 : Int32)) rfl rfl (s_r1 (pc := 26) rw_224_26 (A := 1) rfl (by decide) (b_ine_t (pc := 73) rw_225_73 (A := 1) rfl (by decide) (to_an (pc := 78) rw_225_78 rfl (s_gR (pc := 79) rw_225_79 hG476 rfl (v := 115) rfl (to_an (pc := 82) rw_225_82 rfl ?_)))))
          have c_478 : M475.2.1 77 65 = (M.2.1 77 65) := (W_n W474 (by decide) rfl)
          refine tt_gI (pc := 83) rw_225_83 (g_o hG476 rfl) (v := (M.2.1 77 65)) c_478 (to_c (pc := 86) rw_225_86 (x := (2 : Int32)) rfl rfl (s_ias (pc := 87) rw_225_87 hG476 rfl (n := 64) rfl (A := (M.2.1 77 65).toInt) rfl (by omega) (by omega) (fun M480 W479 => ?_)))
          have hG481 := g_w hG476 W479 (A := 2) rfl (lo := 0) (hi := 4) rfl rfl (by omega) (by decide)
          have F482 := FR.w F477 W479 (show 115 = 77 ∧ (((M.2.1 77 65).toInt).toNat = 4 ∨ ((M.2.1 77 65).toInt).toNat = 5 ∨ 7 ≤ ((M.2.1 77 65).toInt).toNat ∧ ((M.2.1 77 65).toInt).toNat ≤ 10) ∨ 115 = 77 ∧ (((M.2.1 77 65).toInt).toNat = 59 ∨ 65 ≤ ((M.2.1 77 65).toInt).toNat ∧ ((M.2.1 77 65).toInt).toNat ≤ 69) ∨ 112 ≤ 115 ∧ 115 ≤ 114 ∧ 40 ≤ ((M.2.1 77 65).toInt).toNat ∨ 115 = 115 ∨ 115 = 116 by omega)
          refine to_an (pc := 88) rw_225_88 rfl (to_dupr (pc := 89) rw_225_89 ?_)
          have c_483 : M480.2.1 77 65 = (M.2.1 77 65) := (W_n W479 (fun z => absurd z.1 (by decide)) c_478)
          refine tt_gI (pc := 90) rw_225_90 (g_o hG481 rfl) (v := (M.2.1 77 65)) c_483 (to_c (pc := 93) rw_225_93 (x := (1 : Int32)) rfl rfl (s_add (pc := 94) rw_225_94 (A := (M.2.1 77 65).toInt) (B := 1) rfl rfl (by omega) (fun v484 e485 => s_pI (pc := 95) rw_225_95 hG481 rfl (fun M487 W486 => ?_))))
          have hG488 := g_w hG481 W486 (A := v484.toInt) rfl (lo := 0) (hi := 48) rfl rfl (by omega) (by decide)
          have F489 := FR.w F482 W486 (show 77 = 77 ∧ (65 = 4 ∨ 65 = 5 ∨ 7 ≤ 65 ∧ 65 ≤ 10) ∨ 77 = 77 ∧ (65 = 59 ∨ 65 ≤ 65 ∧ 65 ≤ 69) ∨ 112 ≤ 77 ∧ 77 ≤ 114 ∧ 40 ≤ 65 ∨ 77 = 115 ∨ 77 = 116 by decide)
          refine to_an (pc := 98) rw_225_98 rfl (s_v (pc := 99) rw_225_99 (dp0 hd (by decide)) (ls0 := [.ref 77]) rfl (Nat.le_of_ble_eq_true rfl) (Nat.le_of_ble_eq_true rfl) rfl (to_rc rfl rfl rfl (g_o hG488 rfl)) rfl ?_)
          have c_490 : M487.2.1 77 7 = (M.2.1 77 7) := (W_n W486 (by decide) (W_n W479 (fun z => absurd z.1 (by decide)) (W_n W474 (by decide) rfl)))
          have t_491 : (M487.2.1 77 7).toInt = (M.2.1 77 7).toInt := congrArg Int32.toInt c_490
          have c_492 : M487.2.1 77 6 = (M.2.1 77 6) := (W_n W486 (by decide) (W_n W479 (fun z => absurd z.1 (by decide)) (W_n W474 (by decide) rfl)))
          have t_493 : (M487.2.1 77 6).toInt = (M.2.1 77 6).toInt := congrArg Int32.toInt c_492
          refine C_156 hX (dp1 hd (by decide)) hG488 (by omega)  (fun M499 hG495 F494 p_496 p_497 p_498 => ?_)
          have F500 := FR.c F489 F494 tg_308
          have b_501 := g_b hG495 (a := 77) (i := 7) (lo := 0) (hi := 500) rfl rfl
          have c_502 : M499.2.1 77 6 = (M.2.1 77 6) := (F_n F494 (show ¬ (77 = 77 ∧ 7 ≤ 6 ∧ 6 ≤ 10) by decide) c_492)
          have t_503 : (M499.2.1 77 6).toInt = (M.2.1 77 6).toInt := congrArg Int32.toInt c_502
          have b_504 := g_b hG495 (a := 77) (i := 8) (lo := 0) (hi := 5) rfl rfl
          refine to_c (pc := 102) rw_225_102 (x := (1 : Int32)) rfl rfl (s_r1 (pc := 103) rw_225_103 (A := 1) rfl (by decide) ?_)
          have k_505 : (1 : Int32).toInt = 1 := rfl
          have c_506 : M499.2.1 77 59 = (M.2.1 77 59) := (F_n F494 (show ¬ (77 = 77 ∧ 7 ≤ 59 ∧ 59 ≤ 10) by decide) (W_n W486 (by decide) (W_n W479 (fun z => absurd z.1 (by decide)) (W_n W474 (by decide) rfl))))
          have t_507 : (M499.2.1 77 59).toInt = (M.2.1 77 59).toInt := congrArg Int32.toInt c_506
          have c_508 : M499.2.1 77 65 = v484 := (F_n F494 (show ¬ (77 = 77 ∧ 7 ≤ 65 ∧ 65 ≤ 10) by decide) (W_e W486))
          have t_509 : (M499.2.1 77 65).toInt = v484.toInt := congrArg Int32.toInt c_508
          have c_510 : M499.2.1 77 66 = (M.2.1 77 66) := (F_n F494 (show ¬ (77 = 77 ∧ 7 ≤ 66 ∧ 66 ≤ 10) by decide) (W_n W486 (by decide) (W_n W479 (fun z => absurd z.1 (by decide)) (W_n W474 (by decide) rfl))))
          have t_511 : (M499.2.1 77 66).toInt = (M.2.1 77 66).toInt := congrArg Int32.toInt c_510
          have c_512 : M499.2.1 77 67 = (M.2.1 77 67) := (F_n F494 (show ¬ (77 = 77 ∧ 7 ≤ 67 ∧ 67 ≤ 10) by decide) (W_n W486 (by decide) (W_n W479 (fun z => absurd z.1 (by decide)) (W_n W474 (by decide) rfl))))
          have t_513 : (M499.2.1 77 67).toInt = (M.2.1 77 67).toInt := congrArg Int32.toInt c_512
          have c_514 : M499.2.1 77 68 = (M.2.1 77 68) := (F_n F494 (show ¬ (77 = 77 ∧ 7 ≤ 68 ∧ 68 ≤ 10) by decide) (W_n W486 (by decide) (W_n W479 (fun z => absurd z.1 (by decide)) (W_n W474 (by decide) rfl))))
          have t_515 : (M499.2.1 77 68).toInt = (M.2.1 77 68).toInt := congrArg Int32.toInt c_514
          have c_516 : M499.2.1 77 69 = v472 := (F_n F494 (show ¬ (77 = 77 ∧ 7 ≤ 69 ∧ 69 ≤ 10) by decide) (W_n W486 (by decide) (W_n W479 (fun z => absurd z.1 (by decide)) (W_e W474))))
          have t_517 : (M499.2.1 77 69).toInt = v472.toInt := congrArg Int32.toInt c_516
          have k_519 : (2 : Int32).toInt = 2 := rfl
          have s_520 := Wx_f (M := M) (M1 := M499) ((M.2.1 77 65).toInt).toNat (fun i z => (F_n F494 (show ¬ (115 = 77 ∧ 7 ≤ i ∧ i ≤ 10) by omega) (W_n W486 (by omega) (W_n W479 (by omega) (W_n W474 (by omega) rfl)))))
          have s_521 : (M499.2.1 115 ((M.2.1 77 65).toInt).toNat).toInt = (2 : Int32).toInt := by rw [show ((M.2.1 77 65).toInt).toNat = ((M.2.1 77 65).toInt).toNat by omega]; exact congrArg Int32.toInt (F_n F494 (show ¬ (115 = 77 ∧ 7 ≤ (((M.2.1 77 65).toInt).toNat) ∧ (((M.2.1 77 65).toInt).toNat) ≤ 10) by omega) (W_n W486 (by omega) (W_e W479)))
          have s_522 := Wx_s M499 ((M.2.1 77 65).toInt).toNat
          have j_518 : QK M499 := QK_i (by unfold QK_c; rw [show ((M499.2.1 77 65).toInt).toNat = ((M.2.1 77 65).toInt).toNat + 1 by omega]; refine ⟨by omega, by omega, by omega, by omega⟩) (fun i z => by
              by_cases ei : i = ((M.2.1 77 65).toInt).toNat
              · rw [ei]; omega
              · rw [(F_n F494 (show ¬ (115 = 77 ∧ 7 ≤ i ∧ i ≤ 10) by omega) (W_n W486 (by omega) (W_n W479 (by omega) (W_n W474 (by omega) rfl))))]; exact q2.2.1 i (by omega)) (by rw [(F_n F494 (show ¬ (77 = 77 ∧ 7 ≤ 59 ∧ 59 ≤ 10) by decide) (W_n W486 (by omega) (W_n W479 (by omega) (W_n W474 (by omega) rfl))))]; exact KN_f (fun a i z => (F_n F494 (show ¬ (a = 77 ∧ 7 ≤ i ∧ i ≤ 10) by omega) (W_n W486 (by /-r77,65-/ omega) (W_n W479 (by /-r115-/ omega) (W_n W474 (by /-r77,69-/ omega) rfl))))) q2.2.2)
          exact h (1 : Int32) M499 hG495 F500 (by decide) (by decide) (by omega) (by omega) (by omega) (by omega) (fun _ => j_518)
        · refine to_an (pc := 9) rw_224_9 rfl (to_c (pc := 10) rw_224_10 (x := (2 : Int32)) rfl rfl (s_v (pc := 11) rw_224_11 (dp1 hd (by decide)) (ls0 := [.ref 77, .int (2 : Int32)]) rfl (Nat.le_of_ble_eq_true rfl) (Nat.le_of_ble_eq_true rfl) rfl (to_rc rfl rfl rfl (g_o hG rfl)) rfl (to_an (pc := 0) rw_152_0 rfl (to_in (pc := 1) rw_152_1 rfl (s_pI (pc := 2) rw_152_2 hG rfl (fun M524 W523 => ?_))))))
          have hG525 := g_wf hG W523 rfl rfl (by decide)
          have F526 := FR.w F0 W523 (show 77 = 77 ∧ (4 = 4 ∨ 4 = 5 ∨ 7 ≤ 4 ∧ 4 ≤ 10) ∨ 77 = 77 ∧ (4 = 59 ∨ 65 ≤ 4 ∧ 4 ≤ 69) ∨ 112 ≤ 77 ∧ 77 ≤ 114 ∧ 40 ≤ 4 ∨ 77 = 115 ∨ 77 = 116 by decide)
          refine to_an (pc := 5) rw_152_5 rfl (to_an (pc := 6) rw_152_6 rfl ?_)
          have c_527 : M524.2.1 77 10 = (M.2.1 77 10) := (W_n W523 (by decide) rfl)
          have b_528 := g_b hG (a := 77) (i := 10) (lo := 0) (hi := 500) rfl rfl
          refine tt_gI (pc := 7) rw_152_7 (g_o hG525 rfl) (v := (M.2.1 77 10)) c_527 (s_pI (pc := 10) rw_152_10 hG525 rfl (fun M530 W529 => ?_))
          have hG531 := g_wf hG525 W529 rfl rfl (by decide)
          have F532 := FR.w F526 W529 (show 77 = 77 ∧ (5 = 4 ∨ 5 = 5 ∨ 7 ≤ 5 ∧ 5 ≤ 10) ∨ 77 = 77 ∧ (5 = 59 ∨ 65 ≤ 5 ∧ 5 ≤ 69) ∨ 112 ≤ 77 ∧ 77 ≤ 114 ∧ 40 ≤ 5 ∨ 77 = 115 ∨ 77 = 116 by decide)
          refine to_c (pc := 13) rw_152_13 (x := (0 : Int32)) rfl rfl (s_r1 (pc := 14) rw_152_14 (A := 0) rfl (by decide) (s_r1 (pc := 14) rw_224_14 (A := 0) rfl (by decide) (b_ine_f (pc := 73) rw_225_73 (A := 0) rfl (by decide) (to_c (pc := 76) rw_225_76 (x := (0 : Int32)) rfl rfl (s_r1 (pc := 77) rw_225_77 (A := 0) rfl (by decide) ?_)))))
          have k_533 : (0 : Int32).toInt = 0 := rfl
          have c_534 : M530.2.1 77 7 = (M.2.1 77 7) := (W_n W529 (by decide) (W_n W523 (by decide) rfl))
          have t_535 : (M530.2.1 77 7).toInt = (M.2.1 77 7).toInt := congrArg Int32.toInt c_534
          have c_536 : M530.2.1 77 6 = (M.2.1 77 6) := (W_n W529 (by decide) (W_n W523 (by decide) rfl))
          have t_537 : (M530.2.1 77 6).toInt = (M.2.1 77 6).toInt := congrArg Int32.toInt c_536
          have c_538 : M530.2.1 77 8 = (M.2.1 77 8) := (W_n W529 (by decide) (W_n W523 (by decide) rfl))
          have t_539 : (M530.2.1 77 8).toInt = (M.2.1 77 8).toInt := congrArg Int32.toInt c_538
          exact h (0 : Int32) M530 hG531 F532 (by decide) (by decide) (by omega) (by omega) (by omega) (by omega) (fun z => absurd z (by omega))
  · refine to_an (pc := 8) rw_159_8 rfl (tt_gI (pc := 9) rw_159_9 (g_o hG rfl) (v := (M.2.1 77 9)) rfl (to_in (pc := 12) rw_159_12 rfl (b_cne (pc := 13) rw_159_13 (A := (M.2.1 77 9).toInt) (B := 40) rfl rfl (fun h540 => ?_) (fun h540 => ?_))))
    · refine to_c (pc := 20) rw_159_20 (x := (0 : Int32)) rfl rfl (s_r1 (pc := 21) rw_159_21 (A := 0) rfl (by decide) (b_ieq_t (pc := 6) rw_225_6 (A := 0) rfl (by decide) (to_an (pc := 60) rw_225_60 rfl (to_c (pc := 61) rw_225_61 (x := (14 : Int32)) rfl rfl (s_v (pc := 63) rw_225_63 (dp0 hd (by decide)) (ls0 := [.ref 77, .int (14 : Int32)]) rfl (Nat.le_of_ble_eq_true rfl) (Nat.le_of_ble_eq_true rfl) rfl (to_rc rfl rfl rfl (g_o hG rfl)) rfl (to_an (pc := 0) rw_158_0 rfl (tt_gI (pc := 1) rw_158_1 (g_o hG rfl) (v := (M.2.1 77 8)) rfl (to_c (pc := 4) rw_158_4 (x := (1 : Int32)) rfl rfl (b_cne_t (pc := 5) rw_158_5 (A := (M.2.1 77 8).toInt) (B := 1) rfl rfl (by omega) (to_c (pc := 20) rw_158_20 (x := (0 : Int32)) rfl rfl (s_r1 (pc := 21) rw_158_21 (A := 0) rfl (by decide) ?_)))))))))))
      refine b_ieq_t (pc := 66) rw_225_66 (A := 0) rfl (by decide) (to_an (pc := 104) rw_225_104 rfl (tt_gI (pc := 105) rw_225_105 (g_o hG rfl) (v := (M.2.1 77 8)) rfl (to_c (pc := 108) rw_225_108 (x := (2 : Int32)) rfl rfl (b_ceq_f (pc := 109) rw_225_109 (A := (M.2.1 77 8).toInt) (B := 2) rfl rfl (by omega) (to_an (pc := 112) rw_225_112 rfl (to_c (pc := 113) rw_225_113 (x := (1 : Int32)) rfl rfl (s_v (pc := 114) rw_225_114 (dp0 hd (by decide)) (ls0 := [.ref 77, .int (1 : Int32)]) rfl (Nat.le_of_ble_eq_true rfl) (Nat.le_of_ble_eq_true rfl) rfl (to_rc rfl rfl rfl (g_o hG rfl)) rfl (to_an (pc := 0) rw_152_0 rfl (to_in (pc := 1) rw_152_1 rfl (s_pI (pc := 2) rw_152_2 hG rfl (fun M542 W541 => ?_)))))))))))
      have hG543 := g_wf hG W541 rfl rfl (by decide)
      have F544 := FR.w F0 W541 (show 77 = 77 ∧ (4 = 4 ∨ 4 = 5 ∨ 7 ≤ 4 ∧ 4 ≤ 10) ∨ 77 = 77 ∧ (4 = 59 ∨ 65 ≤ 4 ∧ 4 ≤ 69) ∨ 112 ≤ 77 ∧ 77 ≤ 114 ∧ 40 ≤ 4 ∨ 77 = 115 ∨ 77 = 116 by decide)
      refine to_an (pc := 5) rw_152_5 rfl (to_an (pc := 6) rw_152_6 rfl ?_)
      have c_545 : M542.2.1 77 10 = (M.2.1 77 10) := (W_n W541 (by decide) rfl)
      have b_546 := g_b hG (a := 77) (i := 10) (lo := 0) (hi := 500) rfl rfl
      refine tt_gI (pc := 7) rw_152_7 (g_o hG543 rfl) (v := (M.2.1 77 10)) c_545 (s_pI (pc := 10) rw_152_10 hG543 rfl (fun M548 W547 => ?_))
      have hG549 := g_wf hG543 W547 rfl rfl (by decide)
      have F550 := FR.w F544 W547 (show 77 = 77 ∧ (5 = 4 ∨ 5 = 5 ∨ 7 ≤ 5 ∧ 5 ≤ 10) ∨ 77 = 77 ∧ (5 = 59 ∨ 65 ≤ 5 ∧ 5 ≤ 69) ∨ 112 ≤ 77 ∧ 77 ≤ 114 ∧ 40 ≤ 5 ∨ 77 = 115 ∨ 77 = 116 by decide)
      refine to_c (pc := 13) rw_152_13 (x := (0 : Int32)) rfl rfl (s_r1 (pc := 14) rw_152_14 (A := 0) rfl (by decide) (s_r1 (pc := 117) rw_225_117 (A := 0) rfl (by decide) ?_))
      have k_551 : (0 : Int32).toInt = 0 := rfl
      have c_552 : M548.2.1 77 7 = (M.2.1 77 7) := (W_n W547 (by decide) (W_n W541 (by decide) rfl))
      have t_553 : (M548.2.1 77 7).toInt = (M.2.1 77 7).toInt := congrArg Int32.toInt c_552
      have c_554 : M548.2.1 77 6 = (M.2.1 77 6) := (W_n W547 (by decide) (W_n W541 (by decide) rfl))
      have t_555 : (M548.2.1 77 6).toInt = (M.2.1 77 6).toInt := congrArg Int32.toInt c_554
      have c_556 : M548.2.1 77 8 = (M.2.1 77 8) := (W_n W547 (by decide) (W_n W541 (by decide) rfl))
      have t_557 : (M548.2.1 77 8).toInt = (M.2.1 77 8).toInt := congrArg Int32.toInt c_556
      exact h (0 : Int32) M548 hG549 F550 (by decide) (by decide) (by omega) (by omega) (by omega) (by omega) (fun z => absurd z (by omega))
    · refine to_c (pc := 16) rw_159_16 (x := (1 : Int32)) rfl rfl (to_go (pc := 17) rw_159_17 (s_r1 (pc := 21) rw_159_21 (A := 1) rfl (by decide) (b_ieq_f (pc := 6) rw_225_6 (A := 1) rfl (by decide) (to_an (pc := 9) rw_225_9 rfl (tt_gI (pc := 10) rw_225_10 (g_o hG rfl) (v := (M.2.1 77 67)) rfl (to_c (pc := 13) rw_225_13 (x := (8 : Int32)) rfl rfl (b_cne (pc := 15) rw_225_15 (A := (M.2.1 77 67).toInt) (B := 8) rfl rfl (fun h558 => ?_) (fun h558 => ?_))))))))
      · refine to_an (pc := 24) rw_225_24 rfl (to_dupr (pc := 25) rw_225_25 (tt_gI (pc := 26) rw_225_26 (g_o hG rfl) (v := (M.2.1 77 67)) rfl (to_c (pc := 29) rw_225_29 (x := (1 : Int32)) rfl rfl (s_add (pc := 30) rw_225_30 (A := (M.2.1 77 67).toInt) (B := 1) rfl rfl (by omega) (fun v559 e560 => s_pI (pc := 31) rw_225_31 hG rfl (fun M562 W561 => ?_))))))
        have hG563 := g_w hG W561 (A := v559.toInt) rfl (lo := 0) (hi := 8) rfl rfl (by omega) (by decide)
        have F564 := FR.w F0 W561 (show 77 = 77 ∧ (67 = 4 ∨ 67 = 5 ∨ 7 ≤ 67 ∧ 67 ≤ 10) ∨ 77 = 77 ∧ (67 = 59 ∨ 65 ≤ 67 ∧ 67 ≤ 69) ∨ 112 ≤ 77 ∧ 77 ≤ 114 ∧ 40 ≤ 67 ∨ 77 = 115 ∨ 77 = 116 by decide)
        refine to_an (pc := 34) rw_225_34 rfl (s_gR (pc := 35) rw_225_35 hG563 rfl (v := 115) rfl (to_an (pc := 38) rw_225_38 rfl ?_))
        have c_565 : M562.2.1 77 65 = (M.2.1 77 65) := (W_n W561 (by decide) rfl)
        refine tt_gI (pc := 39) rw_225_39 (g_o hG563 rfl) (v := (M.2.1 77 65)) c_565 (to_c (pc := 42) rw_225_42 (x := (0 : Int32)) rfl rfl (s_ias (pc := 43) rw_225_43 hG563 rfl (n := 64) rfl (A := (M.2.1 77 65).toInt) rfl (by omega) (by omega) (fun M567 W566 => ?_)))
        have hG568 := g_w hG563 W566 (A := 0) rfl (lo := 0) (hi := 4) rfl rfl (by omega) (by decide)
        have F569 := FR.w F564 W566 (show 115 = 77 ∧ (((M.2.1 77 65).toInt).toNat = 4 ∨ ((M.2.1 77 65).toInt).toNat = 5 ∨ 7 ≤ ((M.2.1 77 65).toInt).toNat ∧ ((M.2.1 77 65).toInt).toNat ≤ 10) ∨ 115 = 77 ∧ (((M.2.1 77 65).toInt).toNat = 59 ∨ 65 ≤ ((M.2.1 77 65).toInt).toNat ∧ ((M.2.1 77 65).toInt).toNat ≤ 69) ∨ 112 ≤ 115 ∧ 115 ≤ 114 ∧ 40 ≤ ((M.2.1 77 65).toInt).toNat ∨ 115 = 115 ∨ 115 = 116 by omega)
        refine to_an (pc := 44) rw_225_44 rfl (to_dupr (pc := 45) rw_225_45 ?_)
        have c_570 : M567.2.1 77 65 = (M.2.1 77 65) := (W_n W566 (fun z => absurd z.1 (by decide)) c_565)
        refine tt_gI (pc := 46) rw_225_46 (g_o hG568 rfl) (v := (M.2.1 77 65)) c_570 (to_c (pc := 49) rw_225_49 (x := (1 : Int32)) rfl rfl (s_add (pc := 50) rw_225_50 (A := (M.2.1 77 65).toInt) (B := 1) rfl rfl (by omega) (fun v571 e572 => s_pI (pc := 51) rw_225_51 hG568 rfl (fun M574 W573 => ?_))))
        have hG575 := g_w hG568 W573 (A := v571.toInt) rfl (lo := 0) (hi := 48) rfl rfl (by omega) (by decide)
        have F576 := FR.w F569 W573 (show 77 = 77 ∧ (65 = 4 ∨ 65 = 5 ∨ 7 ≤ 65 ∧ 65 ≤ 10) ∨ 77 = 77 ∧ (65 = 59 ∨ 65 ≤ 65 ∧ 65 ≤ 69) ∨ 112 ≤ 77 ∧ 77 ≤ 114 ∧ 40 ≤ 65 ∨ 77 = 115 ∨ 77 = 116 by decide)
        refine to_an (pc := 54) rw_225_54 rfl (s_v (pc := 55) rw_225_55 (dp0 hd (by decide)) (ls0 := [.ref 77]) rfl (Nat.le_of_ble_eq_true rfl) (Nat.le_of_ble_eq_true rfl) rfl (to_rc rfl rfl rfl (g_o hG575 rfl)) rfl ?_)
        have c_577 : M574.2.1 77 7 = (M.2.1 77 7) := (W_n W573 (by decide) (W_n W566 (fun z => absurd z.1 (by decide)) (W_n W561 (by decide) rfl)))
        have t_578 : (M574.2.1 77 7).toInt = (M.2.1 77 7).toInt := congrArg Int32.toInt c_577
        have c_579 : M574.2.1 77 6 = (M.2.1 77 6) := (W_n W573 (by decide) (W_n W566 (fun z => absurd z.1 (by decide)) (W_n W561 (by decide) rfl)))
        have t_580 : (M574.2.1 77 6).toInt = (M.2.1 77 6).toInt := congrArg Int32.toInt c_579
        refine C_156 hX (dp1 hd (by decide)) hG575 (by omega)  (fun M586 hG582 F581 p_583 p_584 p_585 => ?_)
        have F587 := FR.c F576 F581 tg_308
        have b_588 := g_b hG582 (a := 77) (i := 7) (lo := 0) (hi := 500) rfl rfl
        have c_589 : M586.2.1 77 6 = (M.2.1 77 6) := (F_n F581 (show ¬ (77 = 77 ∧ 7 ≤ 6 ∧ 6 ≤ 10) by decide) c_579)
        have t_590 : (M586.2.1 77 6).toInt = (M.2.1 77 6).toInt := congrArg Int32.toInt c_589
        have b_591 := g_b hG582 (a := 77) (i := 8) (lo := 0) (hi := 5) rfl rfl
        refine to_c (pc := 58) rw_225_58 (x := (1 : Int32)) rfl rfl (s_r1 (pc := 59) rw_225_59 (A := 1) rfl (by decide) ?_)
        have k_592 : (1 : Int32).toInt = 1 := rfl
        have c_593 : M586.2.1 77 59 = (M.2.1 77 59) := (F_n F581 (show ¬ (77 = 77 ∧ 7 ≤ 59 ∧ 59 ≤ 10) by decide) (W_n W573 (by decide) (W_n W566 (fun z => absurd z.1 (by decide)) (W_n W561 (by decide) rfl))))
        have t_594 : (M586.2.1 77 59).toInt = (M.2.1 77 59).toInt := congrArg Int32.toInt c_593
        have c_595 : M586.2.1 77 65 = v571 := (F_n F581 (show ¬ (77 = 77 ∧ 7 ≤ 65 ∧ 65 ≤ 10) by decide) (W_e W573))
        have t_596 : (M586.2.1 77 65).toInt = v571.toInt := congrArg Int32.toInt c_595
        have c_597 : M586.2.1 77 66 = (M.2.1 77 66) := (F_n F581 (show ¬ (77 = 77 ∧ 7 ≤ 66 ∧ 66 ≤ 10) by decide) (W_n W573 (by decide) (W_n W566 (fun z => absurd z.1 (by decide)) (W_n W561 (by decide) rfl))))
        have t_598 : (M586.2.1 77 66).toInt = (M.2.1 77 66).toInt := congrArg Int32.toInt c_597
        have c_599 : M586.2.1 77 67 = v559 := (F_n F581 (show ¬ (77 = 77 ∧ 7 ≤ 67 ∧ 67 ≤ 10) by decide) (W_n W573 (by decide) (W_n W566 (fun z => absurd z.1 (by decide)) (W_e W561))))
        have t_600 : (M586.2.1 77 67).toInt = v559.toInt := congrArg Int32.toInt c_599
        have c_601 : M586.2.1 77 68 = (M.2.1 77 68) := (F_n F581 (show ¬ (77 = 77 ∧ 7 ≤ 68 ∧ 68 ≤ 10) by decide) (W_n W573 (by decide) (W_n W566 (fun z => absurd z.1 (by decide)) (W_n W561 (by decide) rfl))))
        have t_602 : (M586.2.1 77 68).toInt = (M.2.1 77 68).toInt := congrArg Int32.toInt c_601
        have c_603 : M586.2.1 77 69 = (M.2.1 77 69) := (F_n F581 (show ¬ (77 = 77 ∧ 7 ≤ 69 ∧ 69 ≤ 10) by decide) (W_n W573 (by decide) (W_n W566 (fun z => absurd z.1 (by decide)) (W_n W561 (by decide) rfl))))
        have t_604 : (M586.2.1 77 69).toInt = (M.2.1 77 69).toInt := congrArg Int32.toInt c_603
        have k_606 : (0 : Int32).toInt = 0 := rfl
        have s_607 := Wx_f (M := M) (M1 := M586) ((M.2.1 77 65).toInt).toNat (fun i z => (F_n F581 (show ¬ (115 = 77 ∧ 7 ≤ i ∧ i ≤ 10) by omega) (W_n W573 (by omega) (W_n W566 (by omega) (W_n W561 (by omega) rfl)))))
        have s_608 : (M586.2.1 115 ((M.2.1 77 65).toInt).toNat).toInt = (0 : Int32).toInt := by rw [show ((M.2.1 77 65).toInt).toNat = ((M.2.1 77 65).toInt).toNat by omega]; exact congrArg Int32.toInt (F_n F581 (show ¬ (115 = 77 ∧ 7 ≤ (((M.2.1 77 65).toInt).toNat) ∧ (((M.2.1 77 65).toInt).toNat) ≤ 10) by omega) (W_n W573 (by omega) (W_e W566)))
        have s_609 := Wx_s M586 ((M.2.1 77 65).toInt).toNat
        have j_605 : QK M586 := QK_i (by unfold QK_c; rw [show ((M586.2.1 77 65).toInt).toNat = ((M.2.1 77 65).toInt).toNat + 1 by omega]; refine ⟨by omega, by omega, by omega, by omega⟩) (fun i z => by
            by_cases ei : i = ((M.2.1 77 65).toInt).toNat
            · rw [ei]; omega
            · rw [(F_n F581 (show ¬ (115 = 77 ∧ 7 ≤ i ∧ i ≤ 10) by omega) (W_n W573 (by omega) (W_n W566 (by omega) (W_n W561 (by omega) rfl))))]; exact q2.2.1 i (by omega)) (by rw [(F_n F581 (show ¬ (77 = 77 ∧ 7 ≤ 59 ∧ 59 ≤ 10) by decide) (W_n W573 (by omega) (W_n W566 (by omega) (W_n W561 (by omega) rfl))))]; exact KN_f (fun a i z => (F_n F581 (show ¬ (a = 77 ∧ 7 ≤ i ∧ i ≤ 10) by omega) (W_n W573 (by /-r77,65-/ omega) (W_n W566 (by /-r115-/ omega) (W_n W561 (by /-r77,67-/ omega) rfl))))) q2.2.2)
        exact h (1 : Int32) M586 hG582 F587 (by decide) (by decide) (by omega) (by omega) (by omega) (by omega) (fun _ => j_605)
      · refine to_an (pc := 18) rw_225_18 rfl (to_c (pc := 19) rw_225_19 (x := (2 : Int32)) rfl rfl (s_v (pc := 20) rw_225_20 (dp0 hd (by decide)) (ls0 := [.ref 77, .int (2 : Int32)]) rfl (Nat.le_of_ble_eq_true rfl) (Nat.le_of_ble_eq_true rfl) rfl (to_rc rfl rfl rfl (g_o hG rfl)) rfl (to_an (pc := 0) rw_152_0 rfl (to_in (pc := 1) rw_152_1 rfl (s_pI (pc := 2) rw_152_2 hG rfl (fun M611 W610 => ?_))))))
        have hG612 := g_wf hG W610 rfl rfl (by decide)
        have F613 := FR.w F0 W610 (show 77 = 77 ∧ (4 = 4 ∨ 4 = 5 ∨ 7 ≤ 4 ∧ 4 ≤ 10) ∨ 77 = 77 ∧ (4 = 59 ∨ 65 ≤ 4 ∧ 4 ≤ 69) ∨ 112 ≤ 77 ∧ 77 ≤ 114 ∧ 40 ≤ 4 ∨ 77 = 115 ∨ 77 = 116 by decide)
        refine to_an (pc := 5) rw_152_5 rfl (to_an (pc := 6) rw_152_6 rfl ?_)
        have c_614 : M611.2.1 77 10 = (M.2.1 77 10) := (W_n W610 (by decide) rfl)
        have b_615 := g_b hG (a := 77) (i := 10) (lo := 0) (hi := 500) rfl rfl
        refine tt_gI (pc := 7) rw_152_7 (g_o hG612 rfl) (v := (M.2.1 77 10)) c_614 (s_pI (pc := 10) rw_152_10 hG612 rfl (fun M617 W616 => ?_))
        have hG618 := g_wf hG612 W616 rfl rfl (by decide)
        have F619 := FR.w F613 W616 (show 77 = 77 ∧ (5 = 4 ∨ 5 = 5 ∨ 7 ≤ 5 ∧ 5 ≤ 10) ∨ 77 = 77 ∧ (5 = 59 ∨ 65 ≤ 5 ∧ 5 ≤ 69) ∨ 112 ≤ 77 ∧ 77 ≤ 114 ∧ 40 ≤ 5 ∨ 77 = 115 ∨ 77 = 116 by decide)
        refine to_c (pc := 13) rw_152_13 (x := (0 : Int32)) rfl rfl (s_r1 (pc := 14) rw_152_14 (A := 0) rfl (by decide) (s_r1 (pc := 23) rw_225_23 (A := 0) rfl (by decide) ?_))
        have k_620 : (0 : Int32).toInt = 0 := rfl
        have c_621 : M617.2.1 77 7 = (M.2.1 77 7) := (W_n W616 (by decide) (W_n W610 (by decide) rfl))
        have t_622 : (M617.2.1 77 7).toInt = (M.2.1 77 7).toInt := congrArg Int32.toInt c_621
        have c_623 : M617.2.1 77 6 = (M.2.1 77 6) := (W_n W616 (by decide) (W_n W610 (by decide) rfl))
        have t_624 : (M617.2.1 77 6).toInt = (M.2.1 77 6).toInt := congrArg Int32.toInt c_623
        have c_625 : M617.2.1 77 8 = (M.2.1 77 8) := (W_n W616 (by decide) (W_n W610 (by decide) rfl))
        have t_626 : (M617.2.1 77 8).toInt = (M.2.1 77 8).toInt := congrArg Int32.toInt c_625
        exact h (0 : Int32) M617 hG618 F619 (by decide) (by decide) (by omega) (by omega) (by omega) (by omega) (fun z => absurd z (by omega))
