theorem tg_390 : ∀ a i : Nat, (a < 0) → (a = 77 ∧ (i = 4 ∨ i = 5 ∨ 7 ≤ i ∧ i ≤ 10) ∨ a = 77 ∧ (i = 59 ∨ 65 ≤ i ∧ i ≤ 69) ∨ 112 ≤ a ∧ a ≤ 114 ∧ 40 ≤ i ∨ a = 115 ∨ a = 116) := fun a i z => by omega
theorem tg_391 : ∀ a i : Nat, (a = 77 ∧ (i = 59 ∨ i = 66) ∨ 112 ≤ a ∧ a ≤ 114 ∧ 40 ≤ i ∨ a = 116) → (a = 77 ∧ (i = 4 ∨ i = 5 ∨ 7 ≤ i ∧ i ≤ 10) ∨ a = 77 ∧ (i = 59 ∨ 65 ≤ i ∧ i ≤ 69) ∨ 112 ≤ a ∧ a ≤ 114 ∧ 40 ≤ i ∨ a = 115 ∨ a = 116) := fun a i z => by omega
theorem tg_392 : ∀ a i : Nat, (81 ≤ a ∧ a ≤ 84) → ¬ (a = 77 ∧ i = 69) := fun a i z => by omega
theorem tg_393 : ∀ a i : Nat, (81 ≤ a ∧ a ≤ 84) → ¬ (a = 77 ∧ i = 68) := fun a i z => by omega
set_option maxRecDepth 4000 in
set_option maxHeartbeats 0 in
theorem C_225 {X : mm_X} {d : Nat} {M : mm_M} {Q : Option Value → mm_M → Prop} (hX : g_X X) (hd : 2 ≤ d) (hG : g_G M) (q1 : (M.2.1 77 7).toInt ≤ (M.2.1 77 6).toInt) (q2 : QK M) (q3 : FA M) (q4 : (M.2.1 77 68).toInt = 0) (h : ∀ (r : Int32) (M1 : mm_M), g_G M1 → FR md_qr M M1 → (0 ≤ r.toInt) → (r.toInt ≤ 1) → ((M1.2.1 77 7).toInt ≤ (M1.2.1 77 6).toInt) → ((M.2.1 77 7).toInt ≤ (M1.2.1 77 7).toInt) → (r.toInt = 1 → (M1.2.1 77 8).toInt = 0 ∨ (M.2.1 77 7).toInt < (M1.2.1 77 7).toInt) → (r.toInt = 1 → ¬ (M.2.1 77 8).toInt = 0) → (r.toInt = 1 → QK M1) → (r.toInt = 1 → (M1.2.1 77 4).toInt = (M.2.1 77 4).toInt ∧ (M1.2.1 77 5).toInt = (M.2.1 77 5).toInt) → Q (some (.int r)) M1) : mm_T X d 224 0 [.ref 77, .null, .null, .null, .null, .null] [] M Q := by
  have F0 : FR md_qr M M := FR.rf
  have b_1 := g_b hG (a := 77) (i := 7) (lo := 0) (hi := 500) rfl rfl
  have b_2 := g_b hG (a := 77) (i := 6) (lo := 0) (hi := 500) rfl rfl
  have b_3 := g_b hG (a := 77) (i := 68) (lo := 0) (hi := 1) rfl rfl
  have b_4 := g_b hG (a := 77) (i := 59) (lo := 0) (hi := 40) rfl rfl
  have b_5 := g_b hG (a := 77) (i := 65) (lo := 0) (hi := 48) rfl rfl
  have b_6 := g_b hG (a := 77) (i := 66) (lo := 0) (hi := 40) rfl rfl
  have b_7 := g_b hG (a := 77) (i := 67) (lo := 0) (hi := 8) rfl rfl
  have b_8 := g_b hG (a := 77) (i := 69) (lo := 0) (hi := 40) rfl rfl
  have s_9 := QK_e q2
  have s_10 := Wx_b M ((M.2.1 77 65).toInt).toNat
  refine to_an (pc := 0) rw_225_0 rfl (to_c (pc := 1) rw_225_1 (x := (40 : Int32)) rfl rfl (s_v (pc := 3) rw_225_3 (dp0 hd (by decide)) (ls0 := [.ref 77, .int (40 : Int32)]) rfl (Nat.le_of_ble_eq_true rfl) (Nat.le_of_ble_eq_true rfl) rfl (to_rc rfl rfl rfl (g_o hG rfl)) rfl (to_an (pc := 0) rw_159_0 rfl ?_)))
  have b_11 := g_b hG (a := 77) (i := 8) (lo := 0) (hi := 5) rfl rfl
  refine tt_gI (pc := 1) rw_159_1 (g_o hG rfl) (v := (M.2.1 77 8)) rfl (to_c (pc := 4) rw_159_4 (x := (4 : Int32)) rfl rfl (b_cne (pc := 5) rw_159_5 (A := (M.2.1 77 8).toInt) (B := 4) rfl rfl (fun h12 => ?_) (fun h12 => ?_)))
  · refine to_c (pc := 20) rw_159_20 (x := (0 : Int32)) rfl rfl (s_r1 (pc := 21) rw_159_21 (A := 0) rfl (by decide) (b_ieq_t (pc := 6) rw_225_6 (A := 0) rfl (by decide) (to_an (pc := 60) rw_225_60 rfl (to_c (pc := 61) rw_225_61 (x := (14 : Int32)) rfl rfl (s_v (pc := 63) rw_225_63 (dp0 hd (by decide)) (ls0 := [.ref 77, .int (14 : Int32)]) rfl (Nat.le_of_ble_eq_true rfl) (Nat.le_of_ble_eq_true rfl) rfl (to_rc rfl rfl rfl (g_o hG rfl)) rfl (to_an (pc := 0) rw_158_0 rfl (tt_gI (pc := 1) rw_158_1 (g_o hG rfl) (v := (M.2.1 77 8)) rfl (to_c (pc := 4) rw_158_4 (x := (1 : Int32)) rfl rfl (b_cne (pc := 5) rw_158_5 (A := (M.2.1 77 8).toInt) (B := 1) rfl rfl (fun h13 => ?_) (fun h13 => ?_))))))))))
    · refine to_c (pc := 20) rw_158_20 (x := (0 : Int32)) rfl rfl (s_r1 (pc := 21) rw_158_21 (A := 0) rfl (by decide) (b_ieq_t (pc := 66) rw_225_66 (A := 0) rfl (by decide) (to_an (pc := 104) rw_225_104 rfl (tt_gI (pc := 105) rw_225_105 (g_o hG rfl) (v := (M.2.1 77 8)) rfl (to_c (pc := 108) rw_225_108 (x := (2 : Int32)) rfl rfl (b_ceq (pc := 109) rw_225_109 (A := (M.2.1 77 8).toInt) (B := 2) rfl rfl (fun h14 => ?_) (fun h14 => ?_)))))))
      · refine to_an (pc := 118) rw_225_118 rfl (s_v (pc := 119) rw_225_119 (dp0 hd (by decide)) (ls0 := [.ref 77]) rfl (Nat.le_of_ble_eq_true rfl) (Nat.le_of_ble_eq_true rfl) rfl (to_rc rfl rfl rfl (g_o hG rfl)) rfl (to_an (pc := 0) rw_224_0 rfl (tt_gI (pc := 1) rw_224_1 (g_o hG rfl) (v := (M.2.1 77 69)) rfl (to_c (pc := 4) rw_224_4 (x := (40 : Int32)) rfl rfl (b_cne (pc := 6) rw_224_6 (A := (M.2.1 77 69).toInt) (B := 40) rfl rfl (fun h15 => ?_) (fun h15 => ?_))))))
        · refine to_an (pc := 15) rw_224_15 rfl (to_dupr (pc := 16) rw_224_16 (tt_gI (pc := 17) rw_224_17 (g_o hG rfl) (v := (M.2.1 77 69)) rfl (to_c (pc := 20) rw_224_20 (x := (1 : Int32)) rfl rfl (s_add (pc := 21) rw_224_21 (A := (M.2.1 77 69).toInt) (B := 1) rfl rfl (by omega) (fun v16 e17 => s_pI (pc := 22) rw_224_22 hG rfl (fun M19 W18 => ?_))))))
          have hG20 := g_w hG W18 (A := v16.toInt) rfl (lo := 0) (hi := 40) rfl rfl (by omega) (by decide)
          have F21 := FR.w F0 W18 (show 77 = 77 ∧ (69 = 4 ∨ 69 = 5 ∨ 7 ≤ 69 ∧ 69 ≤ 10) ∨ 77 = 77 ∧ (69 = 59 ∨ 65 ≤ 69 ∧ 69 ≤ 69) ∨ 112 ≤ 77 ∧ 77 ≤ 114 ∧ 40 ≤ 69 ∨ 77 = 115 ∨ 77 = 116 by decide)
          refine to_c (pc := 25) rw_224_25 (x := (1 : Int32)) rfl rfl (s_r1 (pc := 26) rw_224_26 (A := 1) rfl (by decide) (b_ine_t (pc := 122) rw_225_122 (A := 1) rfl (by decide) (to_an (pc := 127) rw_225_127 rfl ?_)))
          have c_22 : M19.2.1 77 9 = (M.2.1 77 9) := (W_n W18 (by decide) rfl)
          refine tt_gI (pc := 128) rw_225_128 (g_o hG20 rfl) (v := (M.2.1 77 9)) c_22 (to_isn (pc := 131) rw_225_131 (ls2 := [.ref 77, .int (M.2.1 77 9), .null, .null, .null, .null]) rfl rfl (to_an (pc := 132) rw_225_132 rfl ?_))
          have c_23 : M19.2.1 77 10 = (M.2.1 77 10) := (W_n W18 (by decide) rfl)
          have b_24 := g_b hG (a := 77) (i := 10) (lo := 0) (hi := 500) rfl rfl
          refine tt_gI (pc := 133) rw_225_133 (g_o hG20 rfl) (v := (M.2.1 77 10)) c_23 (to_isn (pc := 136) rw_225_136 (ls2 := [.ref 77, .int (M.2.1 77 9), .int (M.2.1 77 10), .null, .null, .null]) rfl rfl (to_an (pc := 137) rw_225_137 rfl (s_v (pc := 138) rw_225_138 (dp0 hd (by decide)) (ls0 := [.ref 77]) rfl (Nat.le_of_ble_eq_true rfl) (Nat.le_of_ble_eq_true rfl) rfl (to_rc rfl rfl rfl (g_o hG20 rfl)) rfl ?_)))
          have c_25 : M19.2.1 77 7 = (M.2.1 77 7) := (W_n W18 (by decide) rfl)
          have t_26 : (M19.2.1 77 7).toInt = (M.2.1 77 7).toInt := congrArg Int32.toInt c_25
          have c_27 : M19.2.1 77 6 = (M.2.1 77 6) := (W_n W18 (by decide) rfl)
          have t_28 : (M19.2.1 77 6).toInt = (M.2.1 77 6).toInt := congrArg Int32.toInt c_27
          refine C_156 hX (dp1 hd (by decide)) hG20 (by omega)  (fun M34 hG30 F29 p_31 p_32 p_33 => ?_)
          have F35 := FR.c F21 F29 tg_389
          have b_36 := g_b hG30 (a := 77) (i := 7) (lo := 0) (hi := 500) rfl rfl
          have c_37 : M34.2.1 77 6 = (M.2.1 77 6) := (F_n F29 (show ¬ (77 = 77 ∧ 7 ≤ 6 ∧ 6 ≤ 10) by decide) c_27)
          have t_38 : (M34.2.1 77 6).toInt = (M.2.1 77 6).toInt := congrArg Int32.toInt c_37
          have b_39 := g_b hG30 (a := 77) (i := 8) (lo := 0) (hi := 5) rfl rfl
          refine to_an (pc := 141) rw_225_141 rfl (to_c (pc := 142) rw_225_142 (x := (61 : Int32)) rfl rfl (s_v (pc := 144) rw_225_144 (dp0 hd (by decide)) (ls0 := [.ref 77, .int (61 : Int32)]) rfl (Nat.le_of_ble_eq_true rfl) (Nat.le_of_ble_eq_true rfl) rfl (to_rc rfl rfl rfl (g_o hG30 rfl)) rfl (to_an (pc := 0) rw_159_0 rfl (tt_gI (pc := 1) rw_159_1 (g_o hG30 rfl) (v := (M34.2.1 77 8)) rfl (to_c (pc := 4) rw_159_4 (x := (4 : Int32)) rfl rfl (b_cne (pc := 5) rw_159_5 (A := (M34.2.1 77 8).toInt) (B := 4) rfl rfl (fun h40 => ?_) (fun h40 => ?_)))))))
          · refine to_c (pc := 20) rw_159_20 (x := (0 : Int32)) rfl rfl (s_r1 (pc := 21) rw_159_21 (A := 0) rfl (by decide) (to_isn (pc := 147) rw_225_147 (ls2 := [.ref 77, .int (M.2.1 77 9), .int (M.2.1 77 10), .int (0 : Int32), .null, .null]) rfl rfl (to_an (pc := 148) rw_225_148 rfl (to_in (pc := 149) rw_225_149 rfl (s_v (pc := 150) rw_225_150 (dp0 hd (by decide)) (ls0 := [.ref 77, .int (M.2.1 77 9), .null]) rfl (Nat.le_of_ble_eq_true rfl) (Nat.le_of_ble_eq_true rfl) rfl (to_rc rfl rfl rfl (g_o hG30 rfl)) rfl ?_)))))
            have c_41 : M34.2.1 77 12 = (M.2.1 77 12) := (F_n F29 (show ¬ (77 = 77 ∧ 7 ≤ 12 ∧ 12 ≤ 10) by decide) (W_n W18 (by decide) rfl))
            have b_42 := g_b hG (a := 77) (i := 12) (lo := 0) (hi := 8) rfl rfl
            have t_43 : (M34.2.1 77 12).toInt = (M.2.1 77 12).toInt := congrArg Int32.toInt c_41
            refine C_175 hX (dp1 hd (by decide)) hG30 (n := (M.2.1 77 9)) (fun r44 M50 hG46 F45 p_47 p_48 p_49 => ?_)
            have F51 := FR.c F35 F45 tg_390
            refine to_is (pc := 153) rw_225_153 (ls2 := [.ref 77, .int (M.2.1 77 9), .int (M.2.1 77 10), .int (0 : Int32), .int r44, .null]) rfl rfl (to_an (pc := 155) rw_225_155 rfl (to_in (pc := 156) rw_225_156 rfl (s_v (pc := 157) rw_225_157 (dp0 hd (by decide)) (ls0 := [.ref 77, .int (M.2.1 77 9), .null]) rfl (Nat.le_of_ble_eq_true rfl) (Nat.le_of_ble_eq_true rfl) rfl (to_rc rfl rfl rfl (g_o hG46 rfl)) rfl ?_)))
            have c_52 : M50.2.1 77 13 = (M.2.1 77 13) := (F_n F45 (show ¬ (77 < 0) by decide) (F_n F29 (show ¬ (77 = 77 ∧ 7 ≤ 13 ∧ 13 ≤ 10) by decide) (W_n W18 (by decide) rfl)))
            have b_53 := g_b hG (a := 77) (i := 13) (lo := 0) (hi := 12) rfl rfl
            have t_54 : (M50.2.1 77 13).toInt = (M.2.1 77 13).toInt := congrArg Int32.toInt c_52
            refine C_176 hX (dp1 hd (by decide)) hG46 (n := (M.2.1 77 9)) (fun r55 M61 hG57 F56 p_58 p_59 p_60 => ?_)
            have F62 := FR.c F51 F56 tg_390
            refine to_is (pc := 160) rw_225_160 (ls2 := [.ref 77, .int (M.2.1 77 9), .int (M.2.1 77 10), .int (0 : Int32), .int r44, .int r55]) rfl rfl (to_in (pc := 162) rw_225_162 rfl (b_ieq_t (pc := 163) rw_225_163 (A := 0) rfl (by decide) (to_i (pc := 178) rw_225_178 rfl (b_ige (pc := 180) rw_225_180 (A := r55.toInt) rfl (fun h63 => ?_) (fun h63 => ?_)))))
            · refine to_an (pc := 194) rw_225_194 rfl (to_c (pc := 195) rw_225_195 (x := (1 : Int32)) rfl rfl (s_pI (pc := 196) rw_225_196 hG57 rfl (fun M65 W64 => ?_)))
              have hG66 := g_w hG57 W64 (A := 1) rfl (lo := 0) (hi := 1) rfl rfl (by omega) (by decide)
              have F67 := FR.w F62 W64 (show 77 = 77 ∧ (68 = 4 ∨ 68 = 5 ∨ 7 ≤ 68 ∧ 68 ≤ 10) ∨ 77 = 77 ∧ (68 = 59 ∨ 65 ≤ 68 ∧ 68 ≤ 69) ∨ 112 ≤ 77 ∧ 77 ≤ 114 ∧ 40 ≤ 68 ∨ 77 = 115 ∨ 77 = 116 by decide)
              refine to_in (pc := 199) rw_225_199 rfl (b_ine_f (pc := 200) rw_225_200 (A := 0) rfl (by decide) (to_an (pc := 203) rw_225_203 rfl (to_c (pc := 204) rw_225_204 (x := (1 : Int32)) rfl rfl (to_i (pc := 205) rw_225_205 rfl (to_c (pc := 207) rw_225_207 (x := (0 : Int32)) rfl rfl (s_v (pc := 208) rw_225_208 (dp0 hd (by decide)) (ls0 := [.ref 77, .int (1 : Int32), .int r55, .int (0 : Int32)]) rfl (Nat.le_of_ble_eq_true rfl) (Nat.le_of_ble_eq_true rfl) rfl (to_rc rfl rfl rfl (g_o hG66 rfl)) rfl ?_))))))
              have k_68 : (1 : Int32).toInt = 1 := rfl
              have k_69 : (0 : Int32).toInt = 0 := rfl
              have c_70 : M65.2.1 77 59 = (M.2.1 77 59) := (W_n W64 (by decide) (F_n F56 (show ¬ (77 < 0) by decide) (F_n F45 (show ¬ (77 < 0) by decide) (F_n F29 (show ¬ (77 = 77 ∧ 7 ≤ 59 ∧ 59 ≤ 10) by decide) (W_n W18 (by decide) rfl)))))
              have t_71 : (M65.2.1 77 59).toInt = (M.2.1 77 59).toInt := congrArg Int32.toInt c_70
              have c_72 : M65.2.1 77 66 = (M.2.1 77 66) := (W_n W64 (by decide) (F_n F56 (show ¬ (77 < 0) by decide) (F_n F45 (show ¬ (77 < 0) by decide) (F_n F29 (show ¬ (77 = 77 ∧ 7 ≤ 66 ∧ 66 ≤ 10) by decide) (W_n W18 (by decide) rfl)))))
              have t_73 : (M65.2.1 77 66).toInt = (M.2.1 77 66).toInt := congrArg Int32.toInt c_72
              refine C_221 hX (dp1 hd (by decide)) hG66 (by omega) (by omega) (by omega) (by omega) (by omega) (by omega) (by rw [(W_n W64 (by omega) (F_n F56 (show ¬ (77 < 0) by decide) (F_n F45 (show ¬ (77 < 0) by decide) (F_n F29 (show ¬ (77 = 77 ∧ 7 ≤ 59 ∧ 59 ≤ 10) by decide) (W_n W18 (by omega) rfl)))))]; exact KN_f (fun a i z => (W_n W64 (by /-r77,68-/ omega) (F_n F56 (show ¬ (a < 0) by omega) (F_n F45 (show ¬ (a < 0) by omega) (F_n F29 (show ¬ (a = 77 ∧ 7 ≤ i ∧ i ≤ 10) by omega) (W_n W18 (by /-r77,69-/ omega) rfl)))))) q2.2.2) (by omega) (by omega) (by omega) (by omega) (k := (1 : Int32)) (p := r55) (o := (0 : Int32)) (fun M79 hG75 F74 p_76 p_77 p_78 => ?_)
              have F80 := FR.c F67 F74 tg_391
              have b_81 := g_b hG75 (a := 77) (i := 59) (lo := 0) (hi := 40) rfl rfl
              have b_82 := g_b hG75 (a := 77) (i := 66) (lo := 0) (hi := 40) rfl rfl
              refine to_c (pc := 211) rw_225_211 (x := (1 : Int32)) rfl rfl (s_r1 (pc := 212) rw_225_212 (A := 1) rfl (by decide) ?_)
              have c_83 : M79.2.1 77 7 = (M34.2.1 77 7) := (F_n F74 (show ¬ (77 = 77 ∧ (7 = 59 ∨ 7 = 66) ∨ 112 ≤ 77 ∧ 77 ≤ 114 ∧ 40 ≤ 7 ∨ 77 = 116) by decide) (W_n W64 (by decide) (F_n F56 (show ¬ (77 < 0) by decide) (F_n F45 (show ¬ (77 < 0) by decide) rfl))))
              have t_84 : (M79.2.1 77 7).toInt = (M34.2.1 77 7).toInt := congrArg Int32.toInt c_83
              have c_85 : M79.2.1 77 6 = (M.2.1 77 6) := (F_n F74 (show ¬ (77 = 77 ∧ (6 = 59 ∨ 6 = 66) ∨ 112 ≤ 77 ∧ 77 ≤ 114 ∧ 40 ≤ 6 ∨ 77 = 116) by decide) (W_n W64 (by decide) (F_n F56 (show ¬ (77 < 0) by decide) (F_n F45 (show ¬ (77 < 0) by decide) c_37))))
              have t_86 : (M79.2.1 77 6).toInt = (M.2.1 77 6).toInt := congrArg Int32.toInt c_85
              have c_87 : M79.2.1 77 8 = (M34.2.1 77 8) := (F_n F74 (show ¬ (77 = 77 ∧ (8 = 59 ∨ 8 = 66) ∨ 112 ≤ 77 ∧ 77 ≤ 114 ∧ 40 ≤ 8 ∨ 77 = 116) by decide) (W_n W64 (by decide) (F_n F56 (show ¬ (77 < 0) by decide) (F_n F45 (show ¬ (77 < 0) by decide) rfl))))
              have t_88 : (M79.2.1 77 8).toInt = (M34.2.1 77 8).toInt := congrArg Int32.toInt c_87
              have c_89 : M79.2.1 77 65 = (M.2.1 77 65) := (F_n F74 (show ¬ (77 = 77 ∧ (65 = 59 ∨ 65 = 66) ∨ 112 ≤ 77 ∧ 77 ≤ 114 ∧ 40 ≤ 65 ∨ 77 = 116) by decide) (W_n W64 (by decide) (F_n F56 (show ¬ (77 < 0) by decide) (F_n F45 (show ¬ (77 < 0) by decide) (F_n F29 (show ¬ (77 = 77 ∧ 7 ≤ 65 ∧ 65 ≤ 10) by decide) (W_n W18 (by decide) rfl))))))
              have t_90 : (M79.2.1 77 65).toInt = (M.2.1 77 65).toInt := congrArg Int32.toInt c_89
              have c_91 : M79.2.1 77 67 = (M.2.1 77 67) := (F_n F74 (show ¬ (77 = 77 ∧ (67 = 59 ∨ 67 = 66) ∨ 112 ≤ 77 ∧ 77 ≤ 114 ∧ 40 ≤ 67 ∨ 77 = 116) by decide) (W_n W64 (by decide) (F_n F56 (show ¬ (77 < 0) by decide) (F_n F45 (show ¬ (77 < 0) by decide) (F_n F29 (show ¬ (77 = 77 ∧ 7 ≤ 67 ∧ 67 ≤ 10) by decide) (W_n W18 (by decide) rfl))))))
              have t_92 : (M79.2.1 77 67).toInt = (M.2.1 77 67).toInt := congrArg Int32.toInt c_91
              have c_93 : M79.2.1 77 68 = (1 : Int32) := (F_n F74 (show ¬ (77 = 77 ∧ (68 = 59 ∨ 68 = 66) ∨ 112 ≤ 77 ∧ 77 ≤ 114 ∧ 40 ≤ 68 ∨ 77 = 116) by decide) (W_e W64))
              have t_94 : (M79.2.1 77 68).toInt = (1 : Int32).toInt := congrArg Int32.toInt c_93
              have c_95 : M79.2.1 77 69 = v16 := (F_n F74 (show ¬ (77 = 77 ∧ (69 = 59 ∨ 69 = 66) ∨ 112 ≤ 77 ∧ 77 ≤ 114 ∧ 40 ≤ 69 ∨ 77 = 116) by decide) (W_n W64 (by decide) (F_n F56 (show ¬ (77 < 0) by decide) (F_n F45 (show ¬ (77 < 0) by decide) (F_n F29 (show ¬ (77 = 77 ∧ 7 ≤ 69 ∧ 69 ≤ 10) by decide) (W_e W18))))))
              have t_96 : (M79.2.1 77 69).toInt = v16.toInt := congrArg Int32.toInt c_95
              have s_98 := Wx_f (M := M) (M1 := M79) ((M.2.1 77 65).toInt).toNat (fun i z => (F_n F74 (show ¬ (115 = 77 ∧ (i = 59 ∨ i = 66) ∨ 112 ≤ 115 ∧ 115 ≤ 114 ∧ 40 ≤ i ∨ 115 = 116) by omega) (W_n W64 (by omega) (F_n F56 (show ¬ (115 < 0) by decide) (F_n F45 (show ¬ (115 < 0) by decide) (F_n F29 (show ¬ (115 = 77 ∧ 7 ≤ i ∧ i ≤ 10) by omega) (W_n W18 (by omega) rfl)))))))
              have j_97 : QK M79 := QK_i (by unfold QK_c; rw [show ((M79.2.1 77 65).toInt).toNat = ((M.2.1 77 65).toInt).toNat by omega]; refine ⟨by omega, by omega, by omega, by omega⟩) (fun i z => by rw [(F_n F74 (show ¬ (115 = 77 ∧ (i = 59 ∨ i = 66) ∨ 112 ≤ 115 ∧ 115 ≤ 114 ∧ 40 ≤ i ∨ 115 = 116) by omega) (W_n W64 (by omega) (F_n F56 (show ¬ (115 < 0) by decide) (F_n F45 (show ¬ (115 < 0) by decide) (F_n F29 (show ¬ (115 = 77 ∧ 7 ≤ i ∧ i ≤ 10) by omega) (W_n W18 (by omega) rfl))))))]; exact q2.2.1 i (by omega)) p_78
              have c_99 : M79.2.1 77 4 = (M.2.1 77 4) := (F_n F74 (show ¬ (77 = 77 ∧ (4 = 59 ∨ 4 = 66) ∨ 112 ≤ 77 ∧ 77 ≤ 114 ∧ 40 ≤ 4 ∨ 77 = 116) by decide) (W_n W64 (by decide) (F_n F56 (show ¬ (77 < 0) by decide) (F_n F45 (show ¬ (77 < 0) by decide) (F_n F29 (show ¬ (77 = 77 ∧ 7 ≤ 4 ∧ 4 ≤ 10) by decide) (W_n W18 (by decide) rfl))))))
              have t_100 : (M79.2.1 77 4).toInt = (M.2.1 77 4).toInt := congrArg Int32.toInt c_99
              have c_101 : M79.2.1 77 5 = (M.2.1 77 5) := (F_n F74 (show ¬ (77 = 77 ∧ (5 = 59 ∨ 5 = 66) ∨ 112 ≤ 77 ∧ 77 ≤ 114 ∧ 40 ≤ 5 ∨ 77 = 116) by decide) (W_n W64 (by decide) (F_n F56 (show ¬ (77 < 0) by decide) (F_n F45 (show ¬ (77 < 0) by decide) (F_n F29 (show ¬ (77 = 77 ∧ 7 ≤ 5 ∧ 5 ≤ 10) by decide) (W_n W18 (by decide) rfl))))))
              have t_102 : (M79.2.1 77 5).toInt = (M.2.1 77 5).toInt := congrArg Int32.toInt c_101
              exact h (1 : Int32) M79 hG75 F80 (by decide) (by decide) (by omega) (by omega) (by omega) (by omega) (fun _ => j_97) (by omega)
            · refine to_an (pc := 183) rw_225_183 rfl (to_in (pc := 184) rw_225_184 rfl (s_pI (pc := 185) rw_225_185 hG57 rfl (fun M104 W103 => ?_)))
              have hG105 := g_w hG57 W103 (A := (M.2.1 77 10).toInt) rfl (lo := 0) (hi := 500) rfl rfl (by omega) (by decide)
              have F106 := FR.w F62 W103 (show 77 = 77 ∧ (10 = 4 ∨ 10 = 5 ∨ 7 ≤ 10 ∧ 10 ≤ 10) ∨ 77 = 77 ∧ (10 = 59 ∨ 65 ≤ 10 ∧ 10 ≤ 69) ∨ 112 ≤ 77 ∧ 77 ≤ 114 ∧ 40 ≤ 10 ∨ 77 = 115 ∨ 77 = 116 by decide)
              refine to_an (pc := 188) rw_225_188 rfl (to_c (pc := 189) rw_225_189 (x := (4 : Int32)) rfl rfl (s_v (pc := 190) rw_225_190 (dp0 hd (by decide)) (ls0 := [.ref 77, .int (4 : Int32)]) rfl (Nat.le_of_ble_eq_true rfl) (Nat.le_of_ble_eq_true rfl) rfl (to_rc rfl rfl rfl (g_o hG105 rfl)) rfl (to_an (pc := 0) rw_152_0 rfl (to_in (pc := 1) rw_152_1 rfl (s_pI (pc := 2) rw_152_2 hG105 rfl (fun M108 W107 => ?_))))))
              have hG109 := g_wf hG105 W107 rfl rfl (by decide)
              have F110 := FR.w F106 W107 (show 77 = 77 ∧ (4 = 4 ∨ 4 = 5 ∨ 7 ≤ 4 ∧ 4 ≤ 10) ∨ 77 = 77 ∧ (4 = 59 ∨ 65 ≤ 4 ∧ 4 ≤ 69) ∨ 112 ≤ 77 ∧ 77 ≤ 114 ∧ 40 ≤ 4 ∨ 77 = 115 ∨ 77 = 116 by decide)
              refine to_an (pc := 5) rw_152_5 rfl (to_an (pc := 6) rw_152_6 rfl ?_)
              have c_111 : M108.2.1 77 10 = (M.2.1 77 10) := (W_n W107 (by decide) (W_e W103))
              refine tt_gI (pc := 7) rw_152_7 (g_o hG109 rfl) (v := (M.2.1 77 10)) c_111 (s_pI (pc := 10) rw_152_10 hG109 rfl (fun M113 W112 => ?_))
              have hG114 := g_wf hG109 W112 rfl rfl (by decide)
              have F115 := FR.w F110 W112 (show 77 = 77 ∧ (5 = 4 ∨ 5 = 5 ∨ 7 ≤ 5 ∧ 5 ≤ 10) ∨ 77 = 77 ∧ (5 = 59 ∨ 65 ≤ 5 ∧ 5 ≤ 69) ∨ 112 ≤ 77 ∧ 77 ≤ 114 ∧ 40 ≤ 5 ∨ 77 = 115 ∨ 77 = 116 by decide)
              refine to_c (pc := 13) rw_152_13 (x := (0 : Int32)) rfl rfl (s_r1 (pc := 14) rw_152_14 (A := 0) rfl (by decide) (s_r1 (pc := 193) rw_225_193 (A := 0) rfl (by decide) ?_))
              have k_116 : (0 : Int32).toInt = 0 := rfl
              have c_117 : M113.2.1 77 7 = (M34.2.1 77 7) := (W_n W112 (by decide) (W_n W107 (by decide) (W_n W103 (by decide) (F_n F56 (show ¬ (77 < 0) by decide) (F_n F45 (show ¬ (77 < 0) by decide) rfl)))))
              have t_118 : (M113.2.1 77 7).toInt = (M34.2.1 77 7).toInt := congrArg Int32.toInt c_117
              have c_119 : M113.2.1 77 6 = (M.2.1 77 6) := (W_n W112 (by decide) (W_n W107 (by decide) (W_n W103 (by decide) (F_n F56 (show ¬ (77 < 0) by decide) (F_n F45 (show ¬ (77 < 0) by decide) c_37)))))
              have t_120 : (M113.2.1 77 6).toInt = (M.2.1 77 6).toInt := congrArg Int32.toInt c_119
              have c_121 : M113.2.1 77 8 = (M34.2.1 77 8) := (W_n W112 (by decide) (W_n W107 (by decide) (W_n W103 (by decide) (F_n F56 (show ¬ (77 < 0) by decide) (F_n F45 (show ¬ (77 < 0) by decide) rfl)))))
              have t_122 : (M113.2.1 77 8).toInt = (M34.2.1 77 8).toInt := congrArg Int32.toInt c_121
              have c_123 : M113.2.1 77 4 = (4 : Int32) := (W_n W112 (by decide) (W_e W107))
              have k_124 : (4 : Int32).toInt = 4 := rfl
              have t_125 : (M113.2.1 77 4).toInt = (4 : Int32).toInt := congrArg Int32.toInt c_123
              have c_126 : M113.2.1 77 5 = (M.2.1 77 10) := (W_e W112)
              have t_127 : (M113.2.1 77 5).toInt = (M.2.1 77 10).toInt := congrArg Int32.toInt c_126
              exact h (0 : Int32) M113 hG114 F115 (by decide) (by decide) (by omega) (by omega) (by omega) (by omega) (fun z => absurd z (by omega)) (by omega)
          · refine to_an (pc := 8) rw_159_8 rfl (tt_gI (pc := 9) rw_159_9 (g_o hG30 rfl) (v := (M34.2.1 77 9)) rfl (to_in (pc := 12) rw_159_12 rfl (b_cne (pc := 13) rw_159_13 (A := (M34.2.1 77 9).toInt) (B := 61) rfl rfl (fun h128 => ?_) (fun h128 => ?_))))
            · refine to_c (pc := 20) rw_159_20 (x := (0 : Int32)) rfl rfl (s_r1 (pc := 21) rw_159_21 (A := 0) rfl (by decide) (to_isn (pc := 147) rw_225_147 (ls2 := [.ref 77, .int (M.2.1 77 9), .int (M.2.1 77 10), .int (0 : Int32), .null, .null]) rfl rfl (to_an (pc := 148) rw_225_148 rfl (to_in (pc := 149) rw_225_149 rfl (s_v (pc := 150) rw_225_150 (dp0 hd (by decide)) (ls0 := [.ref 77, .int (M.2.1 77 9), .null]) rfl (Nat.le_of_ble_eq_true rfl) (Nat.le_of_ble_eq_true rfl) rfl (to_rc rfl rfl rfl (g_o hG30 rfl)) rfl ?_)))))
              have c_129 : M34.2.1 77 12 = (M.2.1 77 12) := (F_n F29 (show ¬ (77 = 77 ∧ 7 ≤ 12 ∧ 12 ≤ 10) by decide) (W_n W18 (by decide) rfl))
              have b_130 := g_b hG (a := 77) (i := 12) (lo := 0) (hi := 8) rfl rfl
              have t_131 : (M34.2.1 77 12).toInt = (M.2.1 77 12).toInt := congrArg Int32.toInt c_129
              refine C_175 hX (dp1 hd (by decide)) hG30 (n := (M.2.1 77 9)) (fun r132 M138 hG134 F133 p_135 p_136 p_137 => ?_)
              have F139 := FR.c F35 F133 tg_390
              refine to_is (pc := 153) rw_225_153 (ls2 := [.ref 77, .int (M.2.1 77 9), .int (M.2.1 77 10), .int (0 : Int32), .int r132, .null]) rfl rfl (to_an (pc := 155) rw_225_155 rfl (to_in (pc := 156) rw_225_156 rfl (s_v (pc := 157) rw_225_157 (dp0 hd (by decide)) (ls0 := [.ref 77, .int (M.2.1 77 9), .null]) rfl (Nat.le_of_ble_eq_true rfl) (Nat.le_of_ble_eq_true rfl) rfl (to_rc rfl rfl rfl (g_o hG134 rfl)) rfl ?_)))
              have c_140 : M138.2.1 77 13 = (M.2.1 77 13) := (F_n F133 (show ¬ (77 < 0) by decide) (F_n F29 (show ¬ (77 = 77 ∧ 7 ≤ 13 ∧ 13 ≤ 10) by decide) (W_n W18 (by decide) rfl)))
              have b_141 := g_b hG (a := 77) (i := 13) (lo := 0) (hi := 12) rfl rfl
              have t_142 : (M138.2.1 77 13).toInt = (M.2.1 77 13).toInt := congrArg Int32.toInt c_140
              refine C_176 hX (dp1 hd (by decide)) hG134 (n := (M.2.1 77 9)) (fun r143 M149 hG145 F144 p_146 p_147 p_148 => ?_)
              have F150 := FR.c F139 F144 tg_390
              refine to_is (pc := 160) rw_225_160 (ls2 := [.ref 77, .int (M.2.1 77 9), .int (M.2.1 77 10), .int (0 : Int32), .int r132, .int r143]) rfl rfl (to_in (pc := 162) rw_225_162 rfl (b_ieq_t (pc := 163) rw_225_163 (A := 0) rfl (by decide) (to_i (pc := 178) rw_225_178 rfl (b_ige (pc := 180) rw_225_180 (A := r143.toInt) rfl (fun h151 => ?_) (fun h151 => ?_)))))
              · refine to_an (pc := 194) rw_225_194 rfl (to_c (pc := 195) rw_225_195 (x := (1 : Int32)) rfl rfl (s_pI (pc := 196) rw_225_196 hG145 rfl (fun M153 W152 => ?_)))
                have hG154 := g_w hG145 W152 (A := 1) rfl (lo := 0) (hi := 1) rfl rfl (by omega) (by decide)
                have F155 := FR.w F150 W152 (show 77 = 77 ∧ (68 = 4 ∨ 68 = 5 ∨ 7 ≤ 68 ∧ 68 ≤ 10) ∨ 77 = 77 ∧ (68 = 59 ∨ 65 ≤ 68 ∧ 68 ≤ 69) ∨ 112 ≤ 77 ∧ 77 ≤ 114 ∧ 40 ≤ 68 ∨ 77 = 115 ∨ 77 = 116 by decide)
                refine to_in (pc := 199) rw_225_199 rfl (b_ine_f (pc := 200) rw_225_200 (A := 0) rfl (by decide) (to_an (pc := 203) rw_225_203 rfl (to_c (pc := 204) rw_225_204 (x := (1 : Int32)) rfl rfl (to_i (pc := 205) rw_225_205 rfl (to_c (pc := 207) rw_225_207 (x := (0 : Int32)) rfl rfl (s_v (pc := 208) rw_225_208 (dp0 hd (by decide)) (ls0 := [.ref 77, .int (1 : Int32), .int r143, .int (0 : Int32)]) rfl (Nat.le_of_ble_eq_true rfl) (Nat.le_of_ble_eq_true rfl) rfl (to_rc rfl rfl rfl (g_o hG154 rfl)) rfl ?_))))))
                have k_156 : (1 : Int32).toInt = 1 := rfl
                have k_157 : (0 : Int32).toInt = 0 := rfl
                have c_158 : M153.2.1 77 59 = (M.2.1 77 59) := (W_n W152 (by decide) (F_n F144 (show ¬ (77 < 0) by decide) (F_n F133 (show ¬ (77 < 0) by decide) (F_n F29 (show ¬ (77 = 77 ∧ 7 ≤ 59 ∧ 59 ≤ 10) by decide) (W_n W18 (by decide) rfl)))))
                have t_159 : (M153.2.1 77 59).toInt = (M.2.1 77 59).toInt := congrArg Int32.toInt c_158
                have c_160 : M153.2.1 77 66 = (M.2.1 77 66) := (W_n W152 (by decide) (F_n F144 (show ¬ (77 < 0) by decide) (F_n F133 (show ¬ (77 < 0) by decide) (F_n F29 (show ¬ (77 = 77 ∧ 7 ≤ 66 ∧ 66 ≤ 10) by decide) (W_n W18 (by decide) rfl)))))
                have t_161 : (M153.2.1 77 66).toInt = (M.2.1 77 66).toInt := congrArg Int32.toInt c_160
                refine C_221 hX (dp1 hd (by decide)) hG154 (by omega) (by omega) (by omega) (by omega) (by omega) (by omega) (by rw [(W_n W152 (by omega) (F_n F144 (show ¬ (77 < 0) by decide) (F_n F133 (show ¬ (77 < 0) by decide) (F_n F29 (show ¬ (77 = 77 ∧ 7 ≤ 59 ∧ 59 ≤ 10) by decide) (W_n W18 (by omega) rfl)))))]; exact KN_f (fun a i z => (W_n W152 (by /-r77,68-/ omega) (F_n F144 (show ¬ (a < 0) by omega) (F_n F133 (show ¬ (a < 0) by omega) (F_n F29 (show ¬ (a = 77 ∧ 7 ≤ i ∧ i ≤ 10) by omega) (W_n W18 (by /-r77,69-/ omega) rfl)))))) q2.2.2) (by omega) (by omega) (by omega) (by omega) (k := (1 : Int32)) (p := r143) (o := (0 : Int32)) (fun M167 hG163 F162 p_164 p_165 p_166 => ?_)
                have F168 := FR.c F155 F162 tg_391
                have b_169 := g_b hG163 (a := 77) (i := 59) (lo := 0) (hi := 40) rfl rfl
                have b_170 := g_b hG163 (a := 77) (i := 66) (lo := 0) (hi := 40) rfl rfl
                refine to_c (pc := 211) rw_225_211 (x := (1 : Int32)) rfl rfl (s_r1 (pc := 212) rw_225_212 (A := 1) rfl (by decide) ?_)
                have c_171 : M167.2.1 77 7 = (M34.2.1 77 7) := (F_n F162 (show ¬ (77 = 77 ∧ (7 = 59 ∨ 7 = 66) ∨ 112 ≤ 77 ∧ 77 ≤ 114 ∧ 40 ≤ 7 ∨ 77 = 116) by decide) (W_n W152 (by decide) (F_n F144 (show ¬ (77 < 0) by decide) (F_n F133 (show ¬ (77 < 0) by decide) rfl))))
                have t_172 : (M167.2.1 77 7).toInt = (M34.2.1 77 7).toInt := congrArg Int32.toInt c_171
                have c_173 : M167.2.1 77 6 = (M.2.1 77 6) := (F_n F162 (show ¬ (77 = 77 ∧ (6 = 59 ∨ 6 = 66) ∨ 112 ≤ 77 ∧ 77 ≤ 114 ∧ 40 ≤ 6 ∨ 77 = 116) by decide) (W_n W152 (by decide) (F_n F144 (show ¬ (77 < 0) by decide) (F_n F133 (show ¬ (77 < 0) by decide) c_37))))
                have t_174 : (M167.2.1 77 6).toInt = (M.2.1 77 6).toInt := congrArg Int32.toInt c_173
                have c_175 : M167.2.1 77 8 = (M34.2.1 77 8) := (F_n F162 (show ¬ (77 = 77 ∧ (8 = 59 ∨ 8 = 66) ∨ 112 ≤ 77 ∧ 77 ≤ 114 ∧ 40 ≤ 8 ∨ 77 = 116) by decide) (W_n W152 (by decide) (F_n F144 (show ¬ (77 < 0) by decide) (F_n F133 (show ¬ (77 < 0) by decide) rfl))))
                have t_176 : (M167.2.1 77 8).toInt = (M34.2.1 77 8).toInt := congrArg Int32.toInt c_175
                have c_177 : M167.2.1 77 65 = (M.2.1 77 65) := (F_n F162 (show ¬ (77 = 77 ∧ (65 = 59 ∨ 65 = 66) ∨ 112 ≤ 77 ∧ 77 ≤ 114 ∧ 40 ≤ 65 ∨ 77 = 116) by decide) (W_n W152 (by decide) (F_n F144 (show ¬ (77 < 0) by decide) (F_n F133 (show ¬ (77 < 0) by decide) (F_n F29 (show ¬ (77 = 77 ∧ 7 ≤ 65 ∧ 65 ≤ 10) by decide) (W_n W18 (by decide) rfl))))))
                have t_178 : (M167.2.1 77 65).toInt = (M.2.1 77 65).toInt := congrArg Int32.toInt c_177
                have c_179 : M167.2.1 77 67 = (M.2.1 77 67) := (F_n F162 (show ¬ (77 = 77 ∧ (67 = 59 ∨ 67 = 66) ∨ 112 ≤ 77 ∧ 77 ≤ 114 ∧ 40 ≤ 67 ∨ 77 = 116) by decide) (W_n W152 (by decide) (F_n F144 (show ¬ (77 < 0) by decide) (F_n F133 (show ¬ (77 < 0) by decide) (F_n F29 (show ¬ (77 = 77 ∧ 7 ≤ 67 ∧ 67 ≤ 10) by decide) (W_n W18 (by decide) rfl))))))
                have t_180 : (M167.2.1 77 67).toInt = (M.2.1 77 67).toInt := congrArg Int32.toInt c_179
                have c_181 : M167.2.1 77 68 = (1 : Int32) := (F_n F162 (show ¬ (77 = 77 ∧ (68 = 59 ∨ 68 = 66) ∨ 112 ≤ 77 ∧ 77 ≤ 114 ∧ 40 ≤ 68 ∨ 77 = 116) by decide) (W_e W152))
                have t_182 : (M167.2.1 77 68).toInt = (1 : Int32).toInt := congrArg Int32.toInt c_181
                have c_183 : M167.2.1 77 69 = v16 := (F_n F162 (show ¬ (77 = 77 ∧ (69 = 59 ∨ 69 = 66) ∨ 112 ≤ 77 ∧ 77 ≤ 114 ∧ 40 ≤ 69 ∨ 77 = 116) by decide) (W_n W152 (by decide) (F_n F144 (show ¬ (77 < 0) by decide) (F_n F133 (show ¬ (77 < 0) by decide) (F_n F29 (show ¬ (77 = 77 ∧ 7 ≤ 69 ∧ 69 ≤ 10) by decide) (W_e W18))))))
                have t_184 : (M167.2.1 77 69).toInt = v16.toInt := congrArg Int32.toInt c_183
                have s_186 := Wx_f (M := M) (M1 := M167) ((M.2.1 77 65).toInt).toNat (fun i z => (F_n F162 (show ¬ (115 = 77 ∧ (i = 59 ∨ i = 66) ∨ 112 ≤ 115 ∧ 115 ≤ 114 ∧ 40 ≤ i ∨ 115 = 116) by omega) (W_n W152 (by omega) (F_n F144 (show ¬ (115 < 0) by decide) (F_n F133 (show ¬ (115 < 0) by decide) (F_n F29 (show ¬ (115 = 77 ∧ 7 ≤ i ∧ i ≤ 10) by omega) (W_n W18 (by omega) rfl)))))))
                have j_185 : QK M167 := QK_i (by unfold QK_c; rw [show ((M167.2.1 77 65).toInt).toNat = ((M.2.1 77 65).toInt).toNat by omega]; refine ⟨by omega, by omega, by omega, by omega⟩) (fun i z => by rw [(F_n F162 (show ¬ (115 = 77 ∧ (i = 59 ∨ i = 66) ∨ 112 ≤ 115 ∧ 115 ≤ 114 ∧ 40 ≤ i ∨ 115 = 116) by omega) (W_n W152 (by omega) (F_n F144 (show ¬ (115 < 0) by decide) (F_n F133 (show ¬ (115 < 0) by decide) (F_n F29 (show ¬ (115 = 77 ∧ 7 ≤ i ∧ i ≤ 10) by omega) (W_n W18 (by omega) rfl))))))]; exact q2.2.1 i (by omega)) p_166
                have c_187 : M167.2.1 77 4 = (M.2.1 77 4) := (F_n F162 (show ¬ (77 = 77 ∧ (4 = 59 ∨ 4 = 66) ∨ 112 ≤ 77 ∧ 77 ≤ 114 ∧ 40 ≤ 4 ∨ 77 = 116) by decide) (W_n W152 (by decide) (F_n F144 (show ¬ (77 < 0) by decide) (F_n F133 (show ¬ (77 < 0) by decide) (F_n F29 (show ¬ (77 = 77 ∧ 7 ≤ 4 ∧ 4 ≤ 10) by decide) (W_n W18 (by decide) rfl))))))
                have t_188 : (M167.2.1 77 4).toInt = (M.2.1 77 4).toInt := congrArg Int32.toInt c_187
                have c_189 : M167.2.1 77 5 = (M.2.1 77 5) := (F_n F162 (show ¬ (77 = 77 ∧ (5 = 59 ∨ 5 = 66) ∨ 112 ≤ 77 ∧ 77 ≤ 114 ∧ 40 ≤ 5 ∨ 77 = 116) by decide) (W_n W152 (by decide) (F_n F144 (show ¬ (77 < 0) by decide) (F_n F133 (show ¬ (77 < 0) by decide) (F_n F29 (show ¬ (77 = 77 ∧ 7 ≤ 5 ∧ 5 ≤ 10) by decide) (W_n W18 (by decide) rfl))))))
                have t_190 : (M167.2.1 77 5).toInt = (M.2.1 77 5).toInt := congrArg Int32.toInt c_189
                exact h (1 : Int32) M167 hG163 F168 (by decide) (by decide) (by omega) (by omega) (by omega) (by omega) (fun _ => j_185) (by omega)
              · refine to_an (pc := 183) rw_225_183 rfl (to_in (pc := 184) rw_225_184 rfl (s_pI (pc := 185) rw_225_185 hG145 rfl (fun M192 W191 => ?_)))
                have hG193 := g_w hG145 W191 (A := (M.2.1 77 10).toInt) rfl (lo := 0) (hi := 500) rfl rfl (by omega) (by decide)
                have F194 := FR.w F150 W191 (show 77 = 77 ∧ (10 = 4 ∨ 10 = 5 ∨ 7 ≤ 10 ∧ 10 ≤ 10) ∨ 77 = 77 ∧ (10 = 59 ∨ 65 ≤ 10 ∧ 10 ≤ 69) ∨ 112 ≤ 77 ∧ 77 ≤ 114 ∧ 40 ≤ 10 ∨ 77 = 115 ∨ 77 = 116 by decide)
                refine to_an (pc := 188) rw_225_188 rfl (to_c (pc := 189) rw_225_189 (x := (4 : Int32)) rfl rfl (s_v (pc := 190) rw_225_190 (dp0 hd (by decide)) (ls0 := [.ref 77, .int (4 : Int32)]) rfl (Nat.le_of_ble_eq_true rfl) (Nat.le_of_ble_eq_true rfl) rfl (to_rc rfl rfl rfl (g_o hG193 rfl)) rfl (to_an (pc := 0) rw_152_0 rfl (to_in (pc := 1) rw_152_1 rfl (s_pI (pc := 2) rw_152_2 hG193 rfl (fun M196 W195 => ?_))))))
                have hG197 := g_wf hG193 W195 rfl rfl (by decide)
                have F198 := FR.w F194 W195 (show 77 = 77 ∧ (4 = 4 ∨ 4 = 5 ∨ 7 ≤ 4 ∧ 4 ≤ 10) ∨ 77 = 77 ∧ (4 = 59 ∨ 65 ≤ 4 ∧ 4 ≤ 69) ∨ 112 ≤ 77 ∧ 77 ≤ 114 ∧ 40 ≤ 4 ∨ 77 = 115 ∨ 77 = 116 by decide)
                refine to_an (pc := 5) rw_152_5 rfl (to_an (pc := 6) rw_152_6 rfl ?_)
                have c_199 : M196.2.1 77 10 = (M.2.1 77 10) := (W_n W195 (by decide) (W_e W191))
                refine tt_gI (pc := 7) rw_152_7 (g_o hG197 rfl) (v := (M.2.1 77 10)) c_199 (s_pI (pc := 10) rw_152_10 hG197 rfl (fun M201 W200 => ?_))
                have hG202 := g_wf hG197 W200 rfl rfl (by decide)
                have F203 := FR.w F198 W200 (show 77 = 77 ∧ (5 = 4 ∨ 5 = 5 ∨ 7 ≤ 5 ∧ 5 ≤ 10) ∨ 77 = 77 ∧ (5 = 59 ∨ 65 ≤ 5 ∧ 5 ≤ 69) ∨ 112 ≤ 77 ∧ 77 ≤ 114 ∧ 40 ≤ 5 ∨ 77 = 115 ∨ 77 = 116 by decide)
                refine to_c (pc := 13) rw_152_13 (x := (0 : Int32)) rfl rfl (s_r1 (pc := 14) rw_152_14 (A := 0) rfl (by decide) (s_r1 (pc := 193) rw_225_193 (A := 0) rfl (by decide) ?_))
                have k_204 : (0 : Int32).toInt = 0 := rfl
                have c_205 : M201.2.1 77 7 = (M34.2.1 77 7) := (W_n W200 (by decide) (W_n W195 (by decide) (W_n W191 (by decide) (F_n F144 (show ¬ (77 < 0) by decide) (F_n F133 (show ¬ (77 < 0) by decide) rfl)))))
                have t_206 : (M201.2.1 77 7).toInt = (M34.2.1 77 7).toInt := congrArg Int32.toInt c_205
                have c_207 : M201.2.1 77 6 = (M.2.1 77 6) := (W_n W200 (by decide) (W_n W195 (by decide) (W_n W191 (by decide) (F_n F144 (show ¬ (77 < 0) by decide) (F_n F133 (show ¬ (77 < 0) by decide) c_37)))))
                have t_208 : (M201.2.1 77 6).toInt = (M.2.1 77 6).toInt := congrArg Int32.toInt c_207
                have c_209 : M201.2.1 77 8 = (M34.2.1 77 8) := (W_n W200 (by decide) (W_n W195 (by decide) (W_n W191 (by decide) (F_n F144 (show ¬ (77 < 0) by decide) (F_n F133 (show ¬ (77 < 0) by decide) rfl)))))
                have t_210 : (M201.2.1 77 8).toInt = (M34.2.1 77 8).toInt := congrArg Int32.toInt c_209
                have c_211 : M201.2.1 77 4 = (4 : Int32) := (W_n W200 (by decide) (W_e W195))
                have k_212 : (4 : Int32).toInt = 4 := rfl
                have t_213 : (M201.2.1 77 4).toInt = (4 : Int32).toInt := congrArg Int32.toInt c_211
                have c_214 : M201.2.1 77 5 = (M.2.1 77 10) := (W_e W200)
                have t_215 : (M201.2.1 77 5).toInt = (M.2.1 77 10).toInt := congrArg Int32.toInt c_214
                exact h (0 : Int32) M201 hG202 F203 (by decide) (by decide) (by omega) (by omega) (by omega) (by omega) (fun z => absurd z (by omega)) (by omega)
            · refine to_c (pc := 16) rw_159_16 (x := (1 : Int32)) rfl rfl (to_go (pc := 17) rw_159_17 (s_r1 (pc := 21) rw_159_21 (A := 1) rfl (by decide) (to_isn (pc := 147) rw_225_147 (ls2 := [.ref 77, .int (M.2.1 77 9), .int (M.2.1 77 10), .int (1 : Int32), .null, .null]) rfl rfl (to_an (pc := 148) rw_225_148 rfl (to_in (pc := 149) rw_225_149 rfl (s_v (pc := 150) rw_225_150 (dp0 hd (by decide)) (ls0 := [.ref 77, .int (M.2.1 77 9), .null]) rfl (Nat.le_of_ble_eq_true rfl) (Nat.le_of_ble_eq_true rfl) rfl (to_rc rfl rfl rfl (g_o hG30 rfl)) rfl ?_))))))
              have c_216 : M34.2.1 77 12 = (M.2.1 77 12) := (F_n F29 (show ¬ (77 = 77 ∧ 7 ≤ 12 ∧ 12 ≤ 10) by decide) (W_n W18 (by decide) rfl))
              have b_217 := g_b hG (a := 77) (i := 12) (lo := 0) (hi := 8) rfl rfl
              have t_218 : (M34.2.1 77 12).toInt = (M.2.1 77 12).toInt := congrArg Int32.toInt c_216
              refine C_175 hX (dp1 hd (by decide)) hG30 (n := (M.2.1 77 9)) (fun r219 M225 hG221 F220 p_222 p_223 p_224 => ?_)
              have F226 := FR.c F35 F220 tg_390
              refine to_is (pc := 153) rw_225_153 (ls2 := [.ref 77, .int (M.2.1 77 9), .int (M.2.1 77 10), .int (1 : Int32), .int r219, .null]) rfl rfl (to_an (pc := 155) rw_225_155 rfl (to_in (pc := 156) rw_225_156 rfl (s_v (pc := 157) rw_225_157 (dp0 hd (by decide)) (ls0 := [.ref 77, .int (M.2.1 77 9), .null]) rfl (Nat.le_of_ble_eq_true rfl) (Nat.le_of_ble_eq_true rfl) rfl (to_rc rfl rfl rfl (g_o hG221 rfl)) rfl ?_)))
              have c_227 : M225.2.1 77 13 = (M.2.1 77 13) := (F_n F220 (show ¬ (77 < 0) by decide) (F_n F29 (show ¬ (77 = 77 ∧ 7 ≤ 13 ∧ 13 ≤ 10) by decide) (W_n W18 (by decide) rfl)))
              have b_228 := g_b hG (a := 77) (i := 13) (lo := 0) (hi := 12) rfl rfl
              have t_229 : (M225.2.1 77 13).toInt = (M.2.1 77 13).toInt := congrArg Int32.toInt c_227
              refine C_176 hX (dp1 hd (by decide)) hG221 (n := (M.2.1 77 9)) (fun r230 M236 hG232 F231 p_233 p_234 p_235 => ?_)
              have F237 := FR.c F226 F231 tg_390
              refine to_is (pc := 160) rw_225_160 (ls2 := [.ref 77, .int (M.2.1 77 9), .int (M.2.1 77 10), .int (1 : Int32), .int r219, .int r230]) rfl rfl (to_in (pc := 162) rw_225_162 rfl (b_ieq_f (pc := 163) rw_225_163 (A := 1) rfl (by decide) (to_an (pc := 166) rw_225_166 rfl (to_i (pc := 167) rw_225_167 rfl (s_v (pc := 169) rw_225_169 (dp0 hd (by decide)) (ls0 := [.ref 77, .int r219]) rfl (Nat.le_of_ble_eq_true rfl) (Nat.le_of_ble_eq_true rfl) rfl (to_rc rfl rfl rfl (g_o hG232 rfl)) rfl (to_an (pc := 0) rw_179_0 rfl (to_in (pc := 1) rw_179_1 rfl (s_v (pc := 2) rw_179_2 (dp1 hd (by decide)) (ls0 := [.ref 77, .int r219]) rfl (Nat.le_of_ble_eq_true rfl) (Nat.le_of_ble_eq_true rfl) rfl (to_rc rfl rfl rfl (g_o hG232 rfl)) rfl (to_in (pc := 0) rw_178_0 rfl (b_ilt (pc := 1) rw_178_1 (A := r219.toInt) rfl (fun h238 => ?_) (fun h238 => ?_)))))))))))
              · refine to_c (pc := 16) rw_178_16 (x := (0 : Int32)) rfl rfl (s_r1 (pc := 17) rw_178_17 (A := 0) rfl (by decide) (b_ieq_t (pc := 5) rw_179_5 (A := 0) rfl (by decide) (to_c (pc := 22) rw_179_22 (x := (0 : Int32)) rfl rfl (s_r1 (pc := 23) rw_179_23 (A := 0) rfl (by decide) (b_ine_f (pc := 172) rw_225_172 (A := 0) rfl (by decide) (to_go (pc := 175) rw_225_175 (to_an (pc := 183) rw_225_183 rfl (to_in (pc := 184) rw_225_184 rfl (s_pI (pc := 185) rw_225_185 hG232 rfl (fun M240 W239 => ?_))))))))))
                have hG241 := g_w hG232 W239 (A := (M.2.1 77 10).toInt) rfl (lo := 0) (hi := 500) rfl rfl (by omega) (by decide)
                have F242 := FR.w F237 W239 (show 77 = 77 ∧ (10 = 4 ∨ 10 = 5 ∨ 7 ≤ 10 ∧ 10 ≤ 10) ∨ 77 = 77 ∧ (10 = 59 ∨ 65 ≤ 10 ∧ 10 ≤ 69) ∨ 112 ≤ 77 ∧ 77 ≤ 114 ∧ 40 ≤ 10 ∨ 77 = 115 ∨ 77 = 116 by decide)
                refine to_an (pc := 188) rw_225_188 rfl (to_c (pc := 189) rw_225_189 (x := (4 : Int32)) rfl rfl (s_v (pc := 190) rw_225_190 (dp0 hd (by decide)) (ls0 := [.ref 77, .int (4 : Int32)]) rfl (Nat.le_of_ble_eq_true rfl) (Nat.le_of_ble_eq_true rfl) rfl (to_rc rfl rfl rfl (g_o hG241 rfl)) rfl (to_an (pc := 0) rw_152_0 rfl (to_in (pc := 1) rw_152_1 rfl (s_pI (pc := 2) rw_152_2 hG241 rfl (fun M244 W243 => ?_))))))
                have hG245 := g_wf hG241 W243 rfl rfl (by decide)
                have F246 := FR.w F242 W243 (show 77 = 77 ∧ (4 = 4 ∨ 4 = 5 ∨ 7 ≤ 4 ∧ 4 ≤ 10) ∨ 77 = 77 ∧ (4 = 59 ∨ 65 ≤ 4 ∧ 4 ≤ 69) ∨ 112 ≤ 77 ∧ 77 ≤ 114 ∧ 40 ≤ 4 ∨ 77 = 115 ∨ 77 = 116 by decide)
                refine to_an (pc := 5) rw_152_5 rfl (to_an (pc := 6) rw_152_6 rfl ?_)
                have c_247 : M244.2.1 77 10 = (M.2.1 77 10) := (W_n W243 (by decide) (W_e W239))
                refine tt_gI (pc := 7) rw_152_7 (g_o hG245 rfl) (v := (M.2.1 77 10)) c_247 (s_pI (pc := 10) rw_152_10 hG245 rfl (fun M249 W248 => ?_))
                have hG250 := g_wf hG245 W248 rfl rfl (by decide)
                have F251 := FR.w F246 W248 (show 77 = 77 ∧ (5 = 4 ∨ 5 = 5 ∨ 7 ≤ 5 ∧ 5 ≤ 10) ∨ 77 = 77 ∧ (5 = 59 ∨ 65 ≤ 5 ∧ 5 ≤ 69) ∨ 112 ≤ 77 ∧ 77 ≤ 114 ∧ 40 ≤ 5 ∨ 77 = 115 ∨ 77 = 116 by decide)
                refine to_c (pc := 13) rw_152_13 (x := (0 : Int32)) rfl rfl (s_r1 (pc := 14) rw_152_14 (A := 0) rfl (by decide) (s_r1 (pc := 193) rw_225_193 (A := 0) rfl (by decide) ?_))
                have k_252 : (0 : Int32).toInt = 0 := rfl
                have c_253 : M249.2.1 77 7 = (M34.2.1 77 7) := (W_n W248 (by decide) (W_n W243 (by decide) (W_n W239 (by decide) (F_n F231 (show ¬ (77 < 0) by decide) (F_n F220 (show ¬ (77 < 0) by decide) rfl)))))
                have t_254 : (M249.2.1 77 7).toInt = (M34.2.1 77 7).toInt := congrArg Int32.toInt c_253
                have c_255 : M249.2.1 77 6 = (M.2.1 77 6) := (W_n W248 (by decide) (W_n W243 (by decide) (W_n W239 (by decide) (F_n F231 (show ¬ (77 < 0) by decide) (F_n F220 (show ¬ (77 < 0) by decide) c_37)))))
                have t_256 : (M249.2.1 77 6).toInt = (M.2.1 77 6).toInt := congrArg Int32.toInt c_255
                have c_257 : M249.2.1 77 8 = (M34.2.1 77 8) := (W_n W248 (by decide) (W_n W243 (by decide) (W_n W239 (by decide) (F_n F231 (show ¬ (77 < 0) by decide) (F_n F220 (show ¬ (77 < 0) by decide) rfl)))))
                have t_258 : (M249.2.1 77 8).toInt = (M34.2.1 77 8).toInt := congrArg Int32.toInt c_257
                have c_259 : M249.2.1 77 4 = (4 : Int32) := (W_n W248 (by decide) (W_e W243))
                have k_260 : (4 : Int32).toInt = 4 := rfl
                have t_261 : (M249.2.1 77 4).toInt = (4 : Int32).toInt := congrArg Int32.toInt c_259
                have c_262 : M249.2.1 77 5 = (M.2.1 77 10) := (W_e W248)
                have t_263 : (M249.2.1 77 5).toInt = (M.2.1 77 10).toInt := congrArg Int32.toInt c_262
                exact h (0 : Int32) M249 hG250 F251 (by decide) (by decide) (by omega) (by omega) (by omega) (by omega) (fun z => absurd z (by omega)) (by omega)
              · refine to_in (pc := 4) rw_178_4 rfl (to_an (pc := 5) rw_178_5 rfl ?_)
                have c_264 : M236.2.1 77 12 = (M.2.1 77 12) := (F_n F231 (show ¬ (77 < 0) by decide) (F_n F220 (show ¬ (77 < 0) by decide) c_216))
                refine tt_gI (pc := 6) rw_178_6 (g_o hG232 rfl) (v := (M.2.1 77 12)) c_264 (b_cge (pc := 9) rw_178_9 (A := r219.toInt) (B := (M.2.1 77 12).toInt) rfl rfl (fun h265 => ?_) (fun h265 => ?_))
                · refine to_c (pc := 16) rw_178_16 (x := (0 : Int32)) rfl rfl (s_r1 (pc := 17) rw_178_17 (A := 0) rfl (by decide) (b_ieq_t (pc := 5) rw_179_5 (A := 0) rfl (by decide) (to_c (pc := 22) rw_179_22 (x := (0 : Int32)) rfl rfl (s_r1 (pc := 23) rw_179_23 (A := 0) rfl (by decide) (b_ine_f (pc := 172) rw_225_172 (A := 0) rfl (by decide) (to_go (pc := 175) rw_225_175 (to_an (pc := 183) rw_225_183 rfl (to_in (pc := 184) rw_225_184 rfl (s_pI (pc := 185) rw_225_185 hG232 rfl (fun M267 W266 => ?_))))))))))
                  have hG268 := g_w hG232 W266 (A := (M.2.1 77 10).toInt) rfl (lo := 0) (hi := 500) rfl rfl (by omega) (by decide)
                  have F269 := FR.w F237 W266 (show 77 = 77 ∧ (10 = 4 ∨ 10 = 5 ∨ 7 ≤ 10 ∧ 10 ≤ 10) ∨ 77 = 77 ∧ (10 = 59 ∨ 65 ≤ 10 ∧ 10 ≤ 69) ∨ 112 ≤ 77 ∧ 77 ≤ 114 ∧ 40 ≤ 10 ∨ 77 = 115 ∨ 77 = 116 by decide)
                  refine to_an (pc := 188) rw_225_188 rfl (to_c (pc := 189) rw_225_189 (x := (4 : Int32)) rfl rfl (s_v (pc := 190) rw_225_190 (dp0 hd (by decide)) (ls0 := [.ref 77, .int (4 : Int32)]) rfl (Nat.le_of_ble_eq_true rfl) (Nat.le_of_ble_eq_true rfl) rfl (to_rc rfl rfl rfl (g_o hG268 rfl)) rfl (to_an (pc := 0) rw_152_0 rfl (to_in (pc := 1) rw_152_1 rfl (s_pI (pc := 2) rw_152_2 hG268 rfl (fun M271 W270 => ?_))))))
                  have hG272 := g_wf hG268 W270 rfl rfl (by decide)
                  have F273 := FR.w F269 W270 (show 77 = 77 ∧ (4 = 4 ∨ 4 = 5 ∨ 7 ≤ 4 ∧ 4 ≤ 10) ∨ 77 = 77 ∧ (4 = 59 ∨ 65 ≤ 4 ∧ 4 ≤ 69) ∨ 112 ≤ 77 ∧ 77 ≤ 114 ∧ 40 ≤ 4 ∨ 77 = 115 ∨ 77 = 116 by decide)
                  refine to_an (pc := 5) rw_152_5 rfl (to_an (pc := 6) rw_152_6 rfl ?_)
                  have c_274 : M271.2.1 77 10 = (M.2.1 77 10) := (W_n W270 (by decide) (W_e W266))
                  refine tt_gI (pc := 7) rw_152_7 (g_o hG272 rfl) (v := (M.2.1 77 10)) c_274 (s_pI (pc := 10) rw_152_10 hG272 rfl (fun M276 W275 => ?_))
                  have hG277 := g_wf hG272 W275 rfl rfl (by decide)
                  have F278 := FR.w F273 W275 (show 77 = 77 ∧ (5 = 4 ∨ 5 = 5 ∨ 7 ≤ 5 ∧ 5 ≤ 10) ∨ 77 = 77 ∧ (5 = 59 ∨ 65 ≤ 5 ∧ 5 ≤ 69) ∨ 112 ≤ 77 ∧ 77 ≤ 114 ∧ 40 ≤ 5 ∨ 77 = 115 ∨ 77 = 116 by decide)
                  refine to_c (pc := 13) rw_152_13 (x := (0 : Int32)) rfl rfl (s_r1 (pc := 14) rw_152_14 (A := 0) rfl (by decide) (s_r1 (pc := 193) rw_225_193 (A := 0) rfl (by decide) ?_))
                  have k_279 : (0 : Int32).toInt = 0 := rfl
                  have c_280 : M276.2.1 77 7 = (M34.2.1 77 7) := (W_n W275 (by decide) (W_n W270 (by decide) (W_n W266 (by decide) (F_n F231 (show ¬ (77 < 0) by decide) (F_n F220 (show ¬ (77 < 0) by decide) rfl)))))
                  have t_281 : (M276.2.1 77 7).toInt = (M34.2.1 77 7).toInt := congrArg Int32.toInt c_280
                  have c_282 : M276.2.1 77 6 = (M.2.1 77 6) := (W_n W275 (by decide) (W_n W270 (by decide) (W_n W266 (by decide) (F_n F231 (show ¬ (77 < 0) by decide) (F_n F220 (show ¬ (77 < 0) by decide) c_37)))))
                  have t_283 : (M276.2.1 77 6).toInt = (M.2.1 77 6).toInt := congrArg Int32.toInt c_282
                  have c_284 : M276.2.1 77 8 = (M34.2.1 77 8) := (W_n W275 (by decide) (W_n W270 (by decide) (W_n W266 (by decide) (F_n F231 (show ¬ (77 < 0) by decide) (F_n F220 (show ¬ (77 < 0) by decide) rfl)))))
                  have t_285 : (M276.2.1 77 8).toInt = (M34.2.1 77 8).toInt := congrArg Int32.toInt c_284
                  have c_286 : M276.2.1 77 4 = (4 : Int32) := (W_n W275 (by decide) (W_e W270))
                  have k_287 : (4 : Int32).toInt = 4 := rfl
                  have t_288 : (M276.2.1 77 4).toInt = (4 : Int32).toInt := congrArg Int32.toInt c_286
                  have c_289 : M276.2.1 77 5 = (M.2.1 77 10) := (W_e W275)
                  have t_290 : (M276.2.1 77 5).toInt = (M.2.1 77 10).toInt := congrArg Int32.toInt c_289
                  exact h (0 : Int32) M276 hG277 F278 (by decide) (by decide) (by omega) (by omega) (by omega) (by omega) (fun z => absurd z (by omega)) (by omega)
                · refine to_c (pc := 12) rw_178_12 (x := (1 : Int32)) rfl rfl (to_go (pc := 13) rw_178_13 (s_r1 (pc := 17) rw_178_17 (A := 1) rfl (by decide) (b_ieq_f (pc := 5) rw_179_5 (A := 1) rfl (by decide) (to_an (pc := 8) rw_179_8 rfl (s_gR (pc := 9) rw_179_9 hG232 rfl (v := 81) rfl (to_in (pc := 12) rw_179_12 rfl (s_ial (pc := 13) rw_179_13 hG232 rfl (n := 16) rfl rfl (A := r219.toInt) rfl (by omega) (by omega) (lo := 0) (hi := 3) rfl rfl (fun v291 w_292 _ _ => ?_))))))))
                  have t_293 := congrArg Int32.toInt w_292
                  have j_295 := (FA_f (tg_307 F231) (FA_f (tg_307 F220) (FA_f (tg_309 F29) (FA_f (fun a i z => W_n W18 (tg_392 a i z) rfl) q3))))
                  have j_294 := FA_u j_295 (r219.toInt).toNat
                  have t_296 : (M236.2.1 81 (r219.toInt).toNat).toInt = (M.2.1 81 (r219.toInt).toNat).toInt := congrArg Int32.toInt (F_n F231 (show ¬ (81 < 0) by decide) (F_n F220 (show ¬ (81 < 0) by decide) (F_n F29 (show ¬ (81 = 77 ∧ 7 ≤ ((r219.toInt).toNat) ∧ ((r219.toInt).toNat) ≤ 10) by omega) (W_n W18 (by omega) rfl))))
                  have t_297 : (M236.2.1 84 (r219.toInt).toNat).toInt = (M.2.1 84 (r219.toInt).toNat).toInt := congrArg Int32.toInt (F_n F231 (show ¬ (84 < 0) by decide) (F_n F220 (show ¬ (84 < 0) by decide) (F_n F29 (show ¬ (84 = 77 ∧ 7 ≤ ((r219.toInt).toNat) ∧ ((r219.toInt).toNat) ≤ 10) by omega) (W_n W18 (by omega) rfl))))
                  have j_298 := FA_u q3 (r219.toInt).toNat
                  refine to_c (pc := 14) rw_179_14 (x := (3 : Int32)) rfl rfl (b_ceq (pc := 15) rw_179_15 (A := v291.toInt) (B := 3) rfl rfl (fun h299 => ?_) (fun h299 => ?_))
                  · refine to_c (pc := 22) rw_179_22 (x := (0 : Int32)) rfl rfl (s_r1 (pc := 23) rw_179_23 (A := 0) rfl (by decide) (b_ine_f (pc := 172) rw_225_172 (A := 0) rfl (by decide) (to_go (pc := 175) rw_225_175 (to_an (pc := 183) rw_225_183 rfl (to_in (pc := 184) rw_225_184 rfl (s_pI (pc := 185) rw_225_185 hG232 rfl (fun M301 W300 => ?_)))))))
                    have hG302 := g_w hG232 W300 (A := (M.2.1 77 10).toInt) rfl (lo := 0) (hi := 500) rfl rfl (by omega) (by decide)
                    have F303 := FR.w F237 W300 (show 77 = 77 ∧ (10 = 4 ∨ 10 = 5 ∨ 7 ≤ 10 ∧ 10 ≤ 10) ∨ 77 = 77 ∧ (10 = 59 ∨ 65 ≤ 10 ∧ 10 ≤ 69) ∨ 112 ≤ 77 ∧ 77 ≤ 114 ∧ 40 ≤ 10 ∨ 77 = 115 ∨ 77 = 116 by decide)
                    refine to_an (pc := 188) rw_225_188 rfl (to_c (pc := 189) rw_225_189 (x := (4 : Int32)) rfl rfl (s_v (pc := 190) rw_225_190 (dp0 hd (by decide)) (ls0 := [.ref 77, .int (4 : Int32)]) rfl (Nat.le_of_ble_eq_true rfl) (Nat.le_of_ble_eq_true rfl) rfl (to_rc rfl rfl rfl (g_o hG302 rfl)) rfl (to_an (pc := 0) rw_152_0 rfl (to_in (pc := 1) rw_152_1 rfl (s_pI (pc := 2) rw_152_2 hG302 rfl (fun M305 W304 => ?_))))))
                    have hG306 := g_wf hG302 W304 rfl rfl (by decide)
                    have F307 := FR.w F303 W304 (show 77 = 77 ∧ (4 = 4 ∨ 4 = 5 ∨ 7 ≤ 4 ∧ 4 ≤ 10) ∨ 77 = 77 ∧ (4 = 59 ∨ 65 ≤ 4 ∧ 4 ≤ 69) ∨ 112 ≤ 77 ∧ 77 ≤ 114 ∧ 40 ≤ 4 ∨ 77 = 115 ∨ 77 = 116 by decide)
                    refine to_an (pc := 5) rw_152_5 rfl (to_an (pc := 6) rw_152_6 rfl ?_)
                    have c_308 : M305.2.1 77 10 = (M.2.1 77 10) := (W_n W304 (by decide) (W_e W300))
                    refine tt_gI (pc := 7) rw_152_7 (g_o hG306 rfl) (v := (M.2.1 77 10)) c_308 (s_pI (pc := 10) rw_152_10 hG306 rfl (fun M310 W309 => ?_))
                    have hG311 := g_wf hG306 W309 rfl rfl (by decide)
                    have F312 := FR.w F307 W309 (show 77 = 77 ∧ (5 = 4 ∨ 5 = 5 ∨ 7 ≤ 5 ∧ 5 ≤ 10) ∨ 77 = 77 ∧ (5 = 59 ∨ 65 ≤ 5 ∧ 5 ≤ 69) ∨ 112 ≤ 77 ∧ 77 ≤ 114 ∧ 40 ≤ 5 ∨ 77 = 115 ∨ 77 = 116 by decide)
                    refine to_c (pc := 13) rw_152_13 (x := (0 : Int32)) rfl rfl (s_r1 (pc := 14) rw_152_14 (A := 0) rfl (by decide) (s_r1 (pc := 193) rw_225_193 (A := 0) rfl (by decide) ?_))
                    have k_313 : (0 : Int32).toInt = 0 := rfl
                    have c_314 : M310.2.1 77 7 = (M34.2.1 77 7) := (W_n W309 (by decide) (W_n W304 (by decide) (W_n W300 (by decide) (F_n F231 (show ¬ (77 < 0) by decide) (F_n F220 (show ¬ (77 < 0) by decide) rfl)))))
                    have t_315 : (M310.2.1 77 7).toInt = (M34.2.1 77 7).toInt := congrArg Int32.toInt c_314
                    have c_316 : M310.2.1 77 6 = (M.2.1 77 6) := (W_n W309 (by decide) (W_n W304 (by decide) (W_n W300 (by decide) (F_n F231 (show ¬ (77 < 0) by decide) (F_n F220 (show ¬ (77 < 0) by decide) c_37)))))
                    have t_317 : (M310.2.1 77 6).toInt = (M.2.1 77 6).toInt := congrArg Int32.toInt c_316
                    have c_318 : M310.2.1 77 8 = (M34.2.1 77 8) := (W_n W309 (by decide) (W_n W304 (by decide) (W_n W300 (by decide) (F_n F231 (show ¬ (77 < 0) by decide) (F_n F220 (show ¬ (77 < 0) by decide) rfl)))))
                    have t_319 : (M310.2.1 77 8).toInt = (M34.2.1 77 8).toInt := congrArg Int32.toInt c_318
                    have c_320 : M310.2.1 77 4 = (4 : Int32) := (W_n W309 (by decide) (W_e W304))
                    have k_321 : (4 : Int32).toInt = 4 := rfl
                    have t_322 : (M310.2.1 77 4).toInt = (4 : Int32).toInt := congrArg Int32.toInt c_320
                    have c_323 : M310.2.1 77 5 = (M.2.1 77 10) := (W_e W309)
                    have t_324 : (M310.2.1 77 5).toInt = (M.2.1 77 10).toInt := congrArg Int32.toInt c_323
                    exact h (0 : Int32) M310 hG311 F312 (by decide) (by decide) (by omega) (by omega) (by omega) (by omega) (fun z => absurd z (by omega)) (by omega)
                  · refine to_c (pc := 18) rw_179_18 (x := (1 : Int32)) rfl rfl (to_go (pc := 19) rw_179_19 (s_r1 (pc := 23) rw_179_23 (A := 1) rfl (by decide) (b_ine_t (pc := 172) rw_225_172 (A := 1) rfl (by decide) (to_an (pc := 194) rw_225_194 rfl (to_c (pc := 195) rw_225_195 (x := (1 : Int32)) rfl rfl (s_pI (pc := 196) rw_225_196 hG232 rfl (fun M326 W325 => ?_)))))))
                    have hG327 := g_w hG232 W325 (A := 1) rfl (lo := 0) (hi := 1) rfl rfl (by omega) (by decide)
                    have F328 := FR.w F237 W325 (show 77 = 77 ∧ (68 = 4 ∨ 68 = 5 ∨ 7 ≤ 68 ∧ 68 ≤ 10) ∨ 77 = 77 ∧ (68 = 59 ∨ 65 ≤ 68 ∧ 68 ≤ 69) ∨ 112 ≤ 77 ∧ 77 ≤ 114 ∧ 40 ≤ 68 ∨ 77 = 115 ∨ 77 = 116 by decide)
                    refine to_in (pc := 199) rw_225_199 rfl (b_ine_t (pc := 200) rw_225_200 (A := 1) rfl (by decide) (to_an (pc := 213) rw_225_213 rfl (s_v (pc := 214) rw_225_214 (dp0 hd (by decide)) (ls0 := [.ref 77]) rfl (Nat.le_of_ble_eq_true rfl) (Nat.le_of_ble_eq_true rfl) rfl (to_rc rfl rfl rfl (g_o hG327 rfl)) rfl ?_)))
                    have c_329 : M326.2.1 77 7 = (M34.2.1 77 7) := (W_n W325 (by decide) (F_n F231 (show ¬ (77 < 0) by decide) (F_n F220 (show ¬ (77 < 0) by decide) rfl)))
                    have t_330 : (M326.2.1 77 7).toInt = (M34.2.1 77 7).toInt := congrArg Int32.toInt c_329
                    have c_331 : M326.2.1 77 6 = (M.2.1 77 6) := (W_n W325 (by decide) (F_n F231 (show ¬ (77 < 0) by decide) (F_n F220 (show ¬ (77 < 0) by decide) c_37)))
                    have t_332 : (M326.2.1 77 6).toInt = (M.2.1 77 6).toInt := congrArg Int32.toInt c_331
                    refine C_156 hX (dp1 hd (by decide)) hG327 (by omega)  (fun M338 hG334 F333 p_335 p_336 p_337 => ?_)
                    have F339 := FR.c F328 F333 tg_389
                    have b_340 := g_b hG334 (a := 77) (i := 7) (lo := 0) (hi := 500) rfl rfl
                    have c_341 : M338.2.1 77 6 = (M.2.1 77 6) := (F_n F333 (show ¬ (77 = 77 ∧ 7 ≤ 6 ∧ 6 ≤ 10) by decide) c_331)
                    have t_342 : (M338.2.1 77 6).toInt = (M.2.1 77 6).toInt := congrArg Int32.toInt c_341
                    have b_343 := g_b hG334 (a := 77) (i := 8) (lo := 0) (hi := 5) rfl rfl
                    refine to_an (pc := 217) rw_225_217 rfl (to_c (pc := 218) rw_225_218 (x := (0 : Int32)) rfl rfl (to_an (pc := 219) rw_225_219 rfl (s_gR (pc := 220) rw_225_220 hG334 rfl (v := 84) rfl (to_i (pc := 223) rw_225_223 rfl (s_ial (pc := 225) rw_225_225 hG334 rfl (n := 16) rfl rfl (A := r219.toInt) rfl (by omega) (by omega) (lo := 0) (hi := 24) rfl rfl (fun v344 w_345 _ _ => ?_))))))
                    have t_346 := congrArg Int32.toInt w_345
                    have j_348 := (FA_f (tg_309 F333) (FA_f (fun a i z => W_n W325 (tg_393 a i z) rfl) j_295))
                    have j_347 := FA_u j_348 (r219.toInt).toNat
                    have t_349 : (M338.2.1 81 (r219.toInt).toNat).toInt = (M.2.1 81 (r219.toInt).toNat).toInt := congrArg Int32.toInt (F_n F333 (show ¬ (81 = 77 ∧ 7 ≤ ((r219.toInt).toNat) ∧ ((r219.toInt).toNat) ≤ 10) by omega) (W_n W325 (by omega) (F_n F231 (show ¬ (81 < 0) by decide) (F_n F220 (show ¬ (81 < 0) by decide) (F_n F29 (show ¬ (81 = 77 ∧ 7 ≤ ((r219.toInt).toNat) ∧ ((r219.toInt).toNat) ≤ 10) by omega) (W_n W18 (by omega) rfl))))))
                    have t_350 : (M338.2.1 84 (r219.toInt).toNat).toInt = (M.2.1 84 (r219.toInt).toNat).toInt := congrArg Int32.toInt (F_n F333 (show ¬ (84 = 77 ∧ 7 ≤ ((r219.toInt).toNat) ∧ ((r219.toInt).toNat) ≤ 10) by omega) (W_n W325 (by omega) (F_n F231 (show ¬ (84 < 0) by decide) (F_n F220 (show ¬ (84 < 0) by decide) (F_n F29 (show ¬ (84 = 77 ∧ 7 ≤ ((r219.toInt).toNat) ∧ ((r219.toInt).toNat) ≤ 10) by omega) (W_n W18 (by omega) rfl))))))
                    refine to_c (pc := 226) rw_225_226 (x := (1 : Int32)) rfl rfl (s_sub (pc := 227) rw_225_227 (A := v344.toInt) (B := 1) rfl rfl (by omega) (fun v351 e352 => s_v (pc := 228) rw_225_228 (dp0 hd (by decide)) (ls0 := [.ref 77, .int (0 : Int32), .int v351]) rfl (Nat.le_of_ble_eq_true rfl) (Nat.le_of_ble_eq_true rfl) rfl (to_rc rfl rfl rfl (g_o hG334 rfl)) rfl (to_an (pc := 0) rw_162_0 rfl (tt_gI (pc := 1) rw_162_1 (g_o hG334 rfl) (v := (M338.2.1 77 8)) rfl (to_c (pc := 4) rw_162_4 (x := (3 : Int32)) rfl rfl (b_ceq (pc := 5) rw_162_5 (A := (M338.2.1 77 8).toInt) (B := 3) rfl rfl (fun h353 => ?_) (fun h353 => ?_)))))))
                    · refine to_an (pc := 14) rw_162_14 rfl (tt_gI (pc := 15) rw_162_15 (g_o hG334 rfl) (v := (M338.2.1 77 9)) rfl (to_in (pc := 18) rw_162_18 rfl (b_clt (pc := 19) rw_162_19 (A := (M338.2.1 77 9).toInt) (B := 0) rfl rfl (fun h354 => ?_) (fun h354 => ?_))))
                      · refine to_an (pc := 30) rw_162_30 rfl (to_c (pc := 31) rw_162_31 (x := (2 : Int32)) rfl rfl (s_v (pc := 32) rw_162_32 (dp1 hd (by decide)) (ls0 := [.ref 77, .int (2 : Int32)]) rfl (Nat.le_of_ble_eq_true rfl) (Nat.le_of_ble_eq_true rfl) rfl (to_rc rfl rfl rfl (g_o hG334 rfl)) rfl (to_an (pc := 0) rw_152_0 rfl (to_in (pc := 1) rw_152_1 rfl (s_pI (pc := 2) rw_152_2 hG334 rfl (fun M356 W355 => ?_))))))
                        have hG357 := g_wf hG334 W355 rfl rfl (by decide)
                        have F358 := FR.w F339 W355 (show 77 = 77 ∧ (4 = 4 ∨ 4 = 5 ∨ 7 ≤ 4 ∧ 4 ≤ 10) ∨ 77 = 77 ∧ (4 = 59 ∨ 65 ≤ 4 ∧ 4 ≤ 69) ∨ 112 ≤ 77 ∧ 77 ≤ 114 ∧ 40 ≤ 4 ∨ 77 = 115 ∨ 77 = 116 by decide)
                        refine to_an (pc := 5) rw_152_5 rfl (to_an (pc := 6) rw_152_6 rfl ?_)
                        have c_359 : M356.2.1 77 10 = (M338.2.1 77 10) := (W_n W355 (by decide) rfl)
                        have b_360 := g_b hG334 (a := 77) (i := 10) (lo := 0) (hi := 500) rfl rfl
                        refine tt_gI (pc := 7) rw_152_7 (g_o hG357 rfl) (v := (M338.2.1 77 10)) c_359 (s_pI (pc := 10) rw_152_10 hG357 rfl (fun M362 W361 => ?_))
                        have hG363 := g_wf hG357 W361 rfl rfl (by decide)
                        have F364 := FR.w F358 W361 (show 77 = 77 ∧ (5 = 4 ∨ 5 = 5 ∨ 7 ≤ 5 ∧ 5 ≤ 10) ∨ 77 = 77 ∧ (5 = 59 ∨ 65 ≤ 5 ∧ 5 ≤ 69) ∨ 112 ≤ 77 ∧ 77 ≤ 114 ∧ 40 ≤ 5 ∨ 77 = 115 ∨ 77 = 116 by decide)
                        refine to_c (pc := 13) rw_152_13 (x := (0 : Int32)) rfl rfl (s_r1 (pc := 14) rw_152_14 (A := 0) rfl (by decide) (b_ieq_t (pc := 35) rw_162_35 (A := 0) rfl (by decide) (to_c (pc := 42) rw_162_42 (x := (0 : Int32)) rfl rfl (s_r1 (pc := 43) rw_162_43 (A := 0) rfl (by decide) (b_ine_f (pc := 231) rw_225_231 (A := 0) rfl (by decide) (to_c (pc := 234) rw_225_234 (x := (0 : Int32)) rfl rfl (s_r1 (pc := 235) rw_225_235 (A := 0) rfl (by decide) ?_)))))))
                        have k_365 : (0 : Int32).toInt = 0 := rfl
                        have c_366 : M362.2.1 77 7 = (M338.2.1 77 7) := (W_n W361 (by decide) (W_n W355 (by decide) rfl))
                        have t_367 : (M362.2.1 77 7).toInt = (M338.2.1 77 7).toInt := congrArg Int32.toInt c_366
                        have c_368 : M362.2.1 77 6 = (M.2.1 77 6) := (W_n W361 (by decide) (W_n W355 (by decide) c_341))
                        have t_369 : (M362.2.1 77 6).toInt = (M.2.1 77 6).toInt := congrArg Int32.toInt c_368
                        have c_370 : M362.2.1 77 8 = (M338.2.1 77 8) := (W_n W361 (by decide) (W_n W355 (by decide) rfl))
                        have t_371 : (M362.2.1 77 8).toInt = (M338.2.1 77 8).toInt := congrArg Int32.toInt c_370
                        have c_372 : M362.2.1 77 4 = (2 : Int32) := (W_n W361 (by decide) (W_e W355))
                        have k_373 : (2 : Int32).toInt = 2 := rfl
                        have t_374 : (M362.2.1 77 4).toInt = (2 : Int32).toInt := congrArg Int32.toInt c_372
                        have c_375 : M362.2.1 77 5 = (M338.2.1 77 10) := (W_e W361)
                        have t_376 : (M362.2.1 77 5).toInt = (M338.2.1 77 10).toInt := congrArg Int32.toInt c_375
                        exact h (0 : Int32) M362 hG363 F364 (by decide) (by decide) (by omega) (by omega) (by omega) (by omega) (fun z => absurd z (by omega)) (by omega)
                      · refine to_an (pc := 22) rw_162_22 rfl (tt_gI (pc := 23) rw_162_23 (g_o hG334 rfl) (v := (M338.2.1 77 9)) rfl (to_in (pc := 26) rw_162_26 rfl (b_cle (pc := 27) rw_162_27 (A := (M338.2.1 77 9).toInt) (B := v351.toInt) rfl rfl (fun h377 => ?_) (fun h377 => ?_))))
                        · refine to_c (pc := 38) rw_162_38 (x := (1 : Int32)) rfl rfl (to_go (pc := 39) rw_162_39 (s_r1 (pc := 43) rw_162_43 (A := 1) rfl (by decide) (b_ine_t (pc := 231) rw_225_231 (A := 1) rfl (by decide) (to_an (pc := 236) rw_225_236 rfl (to_c (pc := 237) rw_225_237 (x := (0 : Int32)) rfl rfl (to_i (pc := 238) rw_225_238 rfl (to_an (pc := 240) rw_225_240 rfl (tt_gI (pc := 241) rw_225_241 (g_o hG334 rfl) (v := (M338.2.1 77 9)) rfl (s_v (pc := 244) rw_225_244 (dp0 hd (by decide)) (ls0 := [.ref 77, .int (0 : Int32), .int r219, .int (M338.2.1 77 9)]) rfl (Nat.le_of_ble_eq_true rfl) (Nat.le_of_ble_eq_true rfl) rfl (to_rc rfl rfl rfl (g_o hG334 rfl)) rfl ?_)))))))))
                          have k_378 : (0 : Int32).toInt = 0 := rfl
                          have c_379 : M338.2.1 77 59 = (M.2.1 77 59) := (F_n F333 (show ¬ (77 = 77 ∧ 7 ≤ 59 ∧ 59 ≤ 10) by decide) (W_n W325 (by decide) (F_n F231 (show ¬ (77 < 0) by decide) (F_n F220 (show ¬ (77 < 0) by decide) (F_n F29 (show ¬ (77 = 77 ∧ 7 ≤ 59 ∧ 59 ≤ 10) by decide) (W_n W18 (by decide) rfl))))))
                          have t_380 : (M338.2.1 77 59).toInt = (M.2.1 77 59).toInt := congrArg Int32.toInt c_379
                          have c_381 : M338.2.1 77 66 = (M.2.1 77 66) := (F_n F333 (show ¬ (77 = 77 ∧ 7 ≤ 66 ∧ 66 ≤ 10) by decide) (W_n W325 (by decide) (F_n F231 (show ¬ (77 < 0) by decide) (F_n F220 (show ¬ (77 < 0) by decide) (F_n F29 (show ¬ (77 = 77 ∧ 7 ≤ 66 ∧ 66 ≤ 10) by decide) (W_n W18 (by decide) rfl))))))
                          have t_382 : (M338.2.1 77 66).toInt = (M.2.1 77 66).toInt := congrArg Int32.toInt c_381
                          have t_383 : (M338.2.1 81 (r219.toInt).toNat).toInt = (M.2.1 81 (r219.toInt).toNat).toInt := congrArg Int32.toInt (F_n F333 (show ¬ (81 = 77 ∧ 7 ≤ ((r219.toInt).toNat) ∧ ((r219.toInt).toNat) ≤ 10) by omega) (W_n W325 (by omega) (F_n F231 (show ¬ (81 < 0) by decide) (F_n F220 (show ¬ (81 < 0) by decide) (F_n F29 (show ¬ (81 = 77 ∧ 7 ≤ ((r219.toInt).toNat) ∧ ((r219.toInt).toNat) ≤ 10) by omega) (W_n W18 (by omega) rfl))))))
                          refine C_221 hX (dp1 hd (by decide)) hG334 (by omega) (by omega) (by omega) (by omega) (by omega) (by omega) (by rw [(F_n F333 (show ¬ (77 = 77 ∧ 7 ≤ 59 ∧ 59 ≤ 10) by decide) (W_n W325 (by omega) (F_n F231 (show ¬ (77 < 0) by decide) (F_n F220 (show ¬ (77 < 0) by decide) (F_n F29 (show ¬ (77 = 77 ∧ 7 ≤ 59 ∧ 59 ≤ 10) by decide) (W_n W18 (by omega) rfl))))))]; exact KN_f (fun a i z => (F_n F333 (show ¬ (a = 77 ∧ 7 ≤ i ∧ i ≤ 10) by omega) (W_n W325 (by /-r77,68-/ omega) (F_n F231 (show ¬ (a < 0) by omega) (F_n F220 (show ¬ (a < 0) by omega) (F_n F29 (show ¬ (a = 77 ∧ 7 ≤ i ∧ i ≤ 10) by omega) (W_n W18 (by /-r77,69-/ omega) rfl))))))) q2.2.2) (by omega) (by omega) (by omega) (by omega) (k := (0 : Int32)) (p := r219) (o := (M338.2.1 77 9)) (fun M389 hG385 F384 p_386 p_387 p_388 => ?_)
                          have F390 := FR.c F339 F384 tg_391
                          have b_391 := g_b hG385 (a := 77) (i := 59) (lo := 0) (hi := 40) rfl rfl
                          have b_392 := g_b hG385 (a := 77) (i := 66) (lo := 0) (hi := 40) rfl rfl
                          refine to_an (pc := 247) rw_225_247 rfl (s_v (pc := 248) rw_225_248 (dp0 hd (by decide)) (ls0 := [.ref 77]) rfl (Nat.le_of_ble_eq_true rfl) (Nat.le_of_ble_eq_true rfl) rfl (to_rc rfl rfl rfl (g_o hG385 rfl)) rfl ?_)
                          have c_393 : M389.2.1 77 7 = (M338.2.1 77 7) := (F_n F384 (show ¬ (77 = 77 ∧ (7 = 59 ∨ 7 = 66) ∨ 112 ≤ 77 ∧ 77 ≤ 114 ∧ 40 ≤ 7 ∨ 77 = 116) by decide) rfl)
                          have t_394 : (M389.2.1 77 7).toInt = (M338.2.1 77 7).toInt := congrArg Int32.toInt c_393
                          have c_395 : M389.2.1 77 6 = (M.2.1 77 6) := (F_n F384 (show ¬ (77 = 77 ∧ (6 = 59 ∨ 6 = 66) ∨ 112 ≤ 77 ∧ 77 ≤ 114 ∧ 40 ≤ 6 ∨ 77 = 116) by decide) c_341)
                          have t_396 : (M389.2.1 77 6).toInt = (M.2.1 77 6).toInt := congrArg Int32.toInt c_395
                          refine C_156 hX (dp1 hd (by decide)) hG385 (by omega)  (fun M402 hG398 F397 p_399 p_400 p_401 => ?_)
                          have F403 := FR.c F390 F397 tg_389
                          have b_404 := g_b hG398 (a := 77) (i := 7) (lo := 0) (hi := 500) rfl rfl
                          have c_405 : M402.2.1 77 6 = (M.2.1 77 6) := (F_n F397 (show ¬ (77 = 77 ∧ 7 ≤ 6 ∧ 6 ≤ 10) by decide) c_395)
                          have t_406 : (M402.2.1 77 6).toInt = (M.2.1 77 6).toInt := congrArg Int32.toInt c_405
                          have b_407 := g_b hG398 (a := 77) (i := 8) (lo := 0) (hi := 5) rfl rfl
                          refine to_c (pc := 251) rw_225_251 (x := (1 : Int32)) rfl rfl (s_r1 (pc := 252) rw_225_252 (A := 1) rfl (by decide) ?_)
                          have k_408 : (1 : Int32).toInt = 1 := rfl
                          have c_409 : M402.2.1 77 59 = (M389.2.1 77 59) := (F_n F397 (show ¬ (77 = 77 ∧ 7 ≤ 59 ∧ 59 ≤ 10) by decide) rfl)
                          have t_410 : (M402.2.1 77 59).toInt = (M389.2.1 77 59).toInt := congrArg Int32.toInt c_409
                          have c_411 : M402.2.1 77 65 = (M.2.1 77 65) := (F_n F397 (show ¬ (77 = 77 ∧ 7 ≤ 65 ∧ 65 ≤ 10) by decide) (F_n F384 (show ¬ (77 = 77 ∧ (65 = 59 ∨ 65 = 66) ∨ 112 ≤ 77 ∧ 77 ≤ 114 ∧ 40 ≤ 65 ∨ 77 = 116) by decide) (F_n F333 (show ¬ (77 = 77 ∧ 7 ≤ 65 ∧ 65 ≤ 10) by decide) (W_n W325 (by decide) (F_n F231 (show ¬ (77 < 0) by decide) (F_n F220 (show ¬ (77 < 0) by decide) (F_n F29 (show ¬ (77 = 77 ∧ 7 ≤ 65 ∧ 65 ≤ 10) by decide) (W_n W18 (by decide) rfl))))))))
                          have t_412 : (M402.2.1 77 65).toInt = (M.2.1 77 65).toInt := congrArg Int32.toInt c_411
                          have c_413 : M402.2.1 77 66 = (M389.2.1 77 66) := (F_n F397 (show ¬ (77 = 77 ∧ 7 ≤ 66 ∧ 66 ≤ 10) by decide) rfl)
                          have t_414 : (M402.2.1 77 66).toInt = (M389.2.1 77 66).toInt := congrArg Int32.toInt c_413
                          have c_415 : M402.2.1 77 67 = (M.2.1 77 67) := (F_n F397 (show ¬ (77 = 77 ∧ 7 ≤ 67 ∧ 67 ≤ 10) by decide) (F_n F384 (show ¬ (77 = 77 ∧ (67 = 59 ∨ 67 = 66) ∨ 112 ≤ 77 ∧ 77 ≤ 114 ∧ 40 ≤ 67 ∨ 77 = 116) by decide) (F_n F333 (show ¬ (77 = 77 ∧ 7 ≤ 67 ∧ 67 ≤ 10) by decide) (W_n W325 (by decide) (F_n F231 (show ¬ (77 < 0) by decide) (F_n F220 (show ¬ (77 < 0) by decide) (F_n F29 (show ¬ (77 = 77 ∧ 7 ≤ 67 ∧ 67 ≤ 10) by decide) (W_n W18 (by decide) rfl))))))))
                          have t_416 : (M402.2.1 77 67).toInt = (M.2.1 77 67).toInt := congrArg Int32.toInt c_415
                          have c_417 : M402.2.1 77 68 = (1 : Int32) := (F_n F397 (show ¬ (77 = 77 ∧ 7 ≤ 68 ∧ 68 ≤ 10) by decide) (F_n F384 (show ¬ (77 = 77 ∧ (68 = 59 ∨ 68 = 66) ∨ 112 ≤ 77 ∧ 77 ≤ 114 ∧ 40 ≤ 68 ∨ 77 = 116) by decide) (F_n F333 (show ¬ (77 = 77 ∧ 7 ≤ 68 ∧ 68 ≤ 10) by decide) (W_e W325))))
                          have t_418 : (M402.2.1 77 68).toInt = (1 : Int32).toInt := congrArg Int32.toInt c_417
                          have c_419 : M402.2.1 77 69 = v16 := (F_n F397 (show ¬ (77 = 77 ∧ 7 ≤ 69 ∧ 69 ≤ 10) by decide) (F_n F384 (show ¬ (77 = 77 ∧ (69 = 59 ∨ 69 = 66) ∨ 112 ≤ 77 ∧ 77 ≤ 114 ∧ 40 ≤ 69 ∨ 77 = 116) by decide) (F_n F333 (show ¬ (77 = 77 ∧ 7 ≤ 69 ∧ 69 ≤ 10) by decide) (W_n W325 (by decide) (F_n F231 (show ¬ (77 < 0) by decide) (F_n F220 (show ¬ (77 < 0) by decide) (F_n F29 (show ¬ (77 = 77 ∧ 7 ≤ 69 ∧ 69 ≤ 10) by decide) (W_e W18))))))))
                          have t_420 : (M402.2.1 77 69).toInt = v16.toInt := congrArg Int32.toInt c_419
                          have s_422 := Wx_f (M := M) (M1 := M402) ((M.2.1 77 65).toInt).toNat (fun i z => (F_n F397 (show ¬ (115 = 77 ∧ 7 ≤ i ∧ i ≤ 10) by omega) (F_n F384 (show ¬ (115 = 77 ∧ (i = 59 ∨ i = 66) ∨ 112 ≤ 115 ∧ 115 ≤ 114 ∧ 40 ≤ i ∨ 115 = 116) by omega) (F_n F333 (show ¬ (115 = 77 ∧ 7 ≤ i ∧ i ≤ 10) by omega) (W_n W325 (by omega) (F_n F231 (show ¬ (115 < 0) by decide) (F_n F220 (show ¬ (115 < 0) by decide) (F_n F29 (show ¬ (115 = 77 ∧ 7 ≤ i ∧ i ≤ 10) by omega) (W_n W18 (by omega) rfl)))))))))
                          have j_421 : QK M402 := QK_i (by unfold QK_c; rw [show ((M402.2.1 77 65).toInt).toNat = ((M.2.1 77 65).toInt).toNat by omega]; refine ⟨by omega, by omega, by omega, by omega⟩) (fun i z => by rw [(F_n F397 (show ¬ (115 = 77 ∧ 7 ≤ i ∧ i ≤ 10) by omega) (F_n F384 (show ¬ (115 = 77 ∧ (i = 59 ∨ i = 66) ∨ 112 ≤ 115 ∧ 115 ≤ 114 ∧ 40 ≤ i ∨ 115 = 116) by omega) (F_n F333 (show ¬ (115 = 77 ∧ 7 ≤ i ∧ i ≤ 10) by omega) (W_n W325 (by omega) (F_n F231 (show ¬ (115 < 0) by decide) (F_n F220 (show ¬ (115 < 0) by decide) (F_n F29 (show ¬ (115 = 77 ∧ 7 ≤ i ∧ i ≤ 10) by omega) (W_n W18 (by omega) rfl))))))))]; exact q2.2.1 i (by omega)) (by rw [(F_n F397 (show ¬ (77 = 77 ∧ 7 ≤ 59 ∧ 59 ≤ 10) by decide) rfl)]; exact KN_f (fun a i z => (F_n F397 (show ¬ (a = 77 ∧ 7 ≤ i ∧ i ≤ 10) by omega) rfl)) p_388)
                          have c_423 : M402.2.1 77 4 = (M.2.1 77 4) := (F_n F397 (show ¬ (77 = 77 ∧ 7 ≤ 4 ∧ 4 ≤ 10) by decide) (F_n F384 (show ¬ (77 = 77 ∧ (4 = 59 ∨ 4 = 66) ∨ 112 ≤ 77 ∧ 77 ≤ 114 ∧ 40 ≤ 4 ∨ 77 = 116) by decide) (F_n F333 (show ¬ (77 = 77 ∧ 7 ≤ 4 ∧ 4 ≤ 10) by decide) (W_n W325 (by decide) (F_n F231 (show ¬ (77 < 0) by decide) (F_n F220 (show ¬ (77 < 0) by decide) (F_n F29 (show ¬ (77 = 77 ∧ 7 ≤ 4 ∧ 4 ≤ 10) by decide) (W_n W18 (by decide) rfl))))))))
                          have t_424 : (M402.2.1 77 4).toInt = (M.2.1 77 4).toInt := congrArg Int32.toInt c_423
                          have c_425 : M402.2.1 77 5 = (M.2.1 77 5) := (F_n F397 (show ¬ (77 = 77 ∧ 7 ≤ 5 ∧ 5 ≤ 10) by decide) (F_n F384 (show ¬ (77 = 77 ∧ (5 = 59 ∨ 5 = 66) ∨ 112 ≤ 77 ∧ 77 ≤ 114 ∧ 40 ≤ 5 ∨ 77 = 116) by decide) (F_n F333 (show ¬ (77 = 77 ∧ 7 ≤ 5 ∧ 5 ≤ 10) by decide) (W_n W325 (by decide) (F_n F231 (show ¬ (77 < 0) by decide) (F_n F220 (show ¬ (77 < 0) by decide) (F_n F29 (show ¬ (77 = 77 ∧ 7 ≤ 5 ∧ 5 ≤ 10) by decide) (W_n W18 (by decide) rfl))))))))
                          have t_426 : (M402.2.1 77 5).toInt = (M.2.1 77 5).toInt := congrArg Int32.toInt c_425
                          exact h (1 : Int32) M402 hG398 F403 (by decide) (by decide) (by omega) (by omega) (by omega) (by omega) (fun _ => j_421) (by omega)
                        · refine to_an (pc := 30) rw_162_30 rfl (to_c (pc := 31) rw_162_31 (x := (2 : Int32)) rfl rfl (s_v (pc := 32) rw_162_32 (dp1 hd (by decide)) (ls0 := [.ref 77, .int (2 : Int32)]) rfl (Nat.le_of_ble_eq_true rfl) (Nat.le_of_ble_eq_true rfl) rfl (to_rc rfl rfl rfl (g_o hG334 rfl)) rfl (to_an (pc := 0) rw_152_0 rfl (to_in (pc := 1) rw_152_1 rfl (s_pI (pc := 2) rw_152_2 hG334 rfl (fun M428 W427 => ?_))))))
                          have hG429 := g_wf hG334 W427 rfl rfl (by decide)
                          have F430 := FR.w F339 W427 (show 77 = 77 ∧ (4 = 4 ∨ 4 = 5 ∨ 7 ≤ 4 ∧ 4 ≤ 10) ∨ 77 = 77 ∧ (4 = 59 ∨ 65 ≤ 4 ∧ 4 ≤ 69) ∨ 112 ≤ 77 ∧ 77 ≤ 114 ∧ 40 ≤ 4 ∨ 77 = 115 ∨ 77 = 116 by decide)
                          refine to_an (pc := 5) rw_152_5 rfl (to_an (pc := 6) rw_152_6 rfl ?_)
                          have c_431 : M428.2.1 77 10 = (M338.2.1 77 10) := (W_n W427 (by decide) rfl)
                          have b_432 := g_b hG334 (a := 77) (i := 10) (lo := 0) (hi := 500) rfl rfl
                          refine tt_gI (pc := 7) rw_152_7 (g_o hG429 rfl) (v := (M338.2.1 77 10)) c_431 (s_pI (pc := 10) rw_152_10 hG429 rfl (fun M434 W433 => ?_))
                          have hG435 := g_wf hG429 W433 rfl rfl (by decide)
                          have F436 := FR.w F430 W433 (show 77 = 77 ∧ (5 = 4 ∨ 5 = 5 ∨ 7 ≤ 5 ∧ 5 ≤ 10) ∨ 77 = 77 ∧ (5 = 59 ∨ 65 ≤ 5 ∧ 5 ≤ 69) ∨ 112 ≤ 77 ∧ 77 ≤ 114 ∧ 40 ≤ 5 ∨ 77 = 115 ∨ 77 = 116 by decide)
                          refine to_c (pc := 13) rw_152_13 (x := (0 : Int32)) rfl rfl (s_r1 (pc := 14) rw_152_14 (A := 0) rfl (by decide) (b_ieq_t (pc := 35) rw_162_35 (A := 0) rfl (by decide) (to_c (pc := 42) rw_162_42 (x := (0 : Int32)) rfl rfl (s_r1 (pc := 43) rw_162_43 (A := 0) rfl (by decide) (b_ine_f (pc := 231) rw_225_231 (A := 0) rfl (by decide) (to_c (pc := 234) rw_225_234 (x := (0 : Int32)) rfl rfl (s_r1 (pc := 235) rw_225_235 (A := 0) rfl (by decide) ?_)))))))
                          have k_437 : (0 : Int32).toInt = 0 := rfl
                          have c_438 : M434.2.1 77 7 = (M338.2.1 77 7) := (W_n W433 (by decide) (W_n W427 (by decide) rfl))
                          have t_439 : (M434.2.1 77 7).toInt = (M338.2.1 77 7).toInt := congrArg Int32.toInt c_438
                          have c_440 : M434.2.1 77 6 = (M.2.1 77 6) := (W_n W433 (by decide) (W_n W427 (by decide) c_341))
                          have t_441 : (M434.2.1 77 6).toInt = (M.2.1 77 6).toInt := congrArg Int32.toInt c_440
                          have c_442 : M434.2.1 77 8 = (M338.2.1 77 8) := (W_n W433 (by decide) (W_n W427 (by decide) rfl))
                          have t_443 : (M434.2.1 77 8).toInt = (M338.2.1 77 8).toInt := congrArg Int32.toInt c_442
                          have c_444 : M434.2.1 77 4 = (2 : Int32) := (W_n W433 (by decide) (W_e W427))
                          have k_445 : (2 : Int32).toInt = 2 := rfl
                          have t_446 : (M434.2.1 77 4).toInt = (2 : Int32).toInt := congrArg Int32.toInt c_444
                          have c_447 : M434.2.1 77 5 = (M338.2.1 77 10) := (W_e W433)
                          have t_448 : (M434.2.1 77 5).toInt = (M338.2.1 77 10).toInt := congrArg Int32.toInt c_447
                          exact h (0 : Int32) M434 hG435 F436 (by decide) (by decide) (by omega) (by omega) (by omega) (by omega) (fun z => absurd z (by omega)) (by omega)
                    · refine to_an (pc := 8) rw_162_8 rfl (to_c (pc := 9) rw_162_9 (x := (1 : Int32)) rfl rfl (s_v (pc := 10) rw_162_10 (dp1 hd (by decide)) (ls0 := [.ref 77, .int (1 : Int32)]) rfl (Nat.le_of_ble_eq_true rfl) (Nat.le_of_ble_eq_true rfl) rfl (to_rc rfl rfl rfl (g_o hG334 rfl)) rfl (to_an (pc := 0) rw_152_0 rfl (to_in (pc := 1) rw_152_1 rfl (s_pI (pc := 2) rw_152_2 hG334 rfl (fun M450 W449 => ?_))))))
                      have hG451 := g_wf hG334 W449 rfl rfl (by decide)
                      have F452 := FR.w F339 W449 (show 77 = 77 ∧ (4 = 4 ∨ 4 = 5 ∨ 7 ≤ 4 ∧ 4 ≤ 10) ∨ 77 = 77 ∧ (4 = 59 ∨ 65 ≤ 4 ∧ 4 ≤ 69) ∨ 112 ≤ 77 ∧ 77 ≤ 114 ∧ 40 ≤ 4 ∨ 77 = 115 ∨ 77 = 116 by decide)
                      refine to_an (pc := 5) rw_152_5 rfl (to_an (pc := 6) rw_152_6 rfl ?_)
                      have c_453 : M450.2.1 77 10 = (M338.2.1 77 10) := (W_n W449 (by decide) rfl)
                      have b_454 := g_b hG334 (a := 77) (i := 10) (lo := 0) (hi := 500) rfl rfl
                      refine tt_gI (pc := 7) rw_152_7 (g_o hG451 rfl) (v := (M338.2.1 77 10)) c_453 (s_pI (pc := 10) rw_152_10 hG451 rfl (fun M456 W455 => ?_))
                      have hG457 := g_wf hG451 W455 rfl rfl (by decide)
                      have F458 := FR.w F452 W455 (show 77 = 77 ∧ (5 = 4 ∨ 5 = 5 ∨ 7 ≤ 5 ∧ 5 ≤ 10) ∨ 77 = 77 ∧ (5 = 59 ∨ 65 ≤ 5 ∧ 5 ≤ 69) ∨ 112 ≤ 77 ∧ 77 ≤ 114 ∧ 40 ≤ 5 ∨ 77 = 115 ∨ 77 = 116 by decide)
                      refine to_c (pc := 13) rw_152_13 (x := (0 : Int32)) rfl rfl (s_r1 (pc := 14) rw_152_14 (A := 0) rfl (by decide) (s_r1 (pc := 13) rw_162_13 (A := 0) rfl (by decide) (b_ine_f (pc := 231) rw_225_231 (A := 0) rfl (by decide) (to_c (pc := 234) rw_225_234 (x := (0 : Int32)) rfl rfl (s_r1 (pc := 235) rw_225_235 (A := 0) rfl (by decide) ?_)))))
                      have k_459 : (0 : Int32).toInt = 0 := rfl
                      have c_460 : M456.2.1 77 7 = (M338.2.1 77 7) := (W_n W455 (by decide) (W_n W449 (by decide) rfl))
                      have t_461 : (M456.2.1 77 7).toInt = (M338.2.1 77 7).toInt := congrArg Int32.toInt c_460
                      have c_462 : M456.2.1 77 6 = (M.2.1 77 6) := (W_n W455 (by decide) (W_n W449 (by decide) c_341))
                      have t_463 : (M456.2.1 77 6).toInt = (M.2.1 77 6).toInt := congrArg Int32.toInt c_462
                      have c_464 : M456.2.1 77 8 = (M338.2.1 77 8) := (W_n W455 (by decide) (W_n W449 (by decide) rfl))
                      have t_465 : (M456.2.1 77 8).toInt = (M338.2.1 77 8).toInt := congrArg Int32.toInt c_464
                      have c_466 : M456.2.1 77 4 = (1 : Int32) := (W_n W455 (by decide) (W_e W449))
                      have k_467 : (1 : Int32).toInt = 1 := rfl
                      have t_468 : (M456.2.1 77 4).toInt = (1 : Int32).toInt := congrArg Int32.toInt c_466
                      have c_469 : M456.2.1 77 5 = (M338.2.1 77 10) := (W_e W455)
                      have t_470 : (M456.2.1 77 5).toInt = (M338.2.1 77 10).toInt := congrArg Int32.toInt c_469
                      exact h (0 : Int32) M456 hG457 F458 (by decide) (by decide) (by omega) (by omega) (by omega) (by omega) (fun z => absurd z (by omega)) (by omega)
        · refine to_an (pc := 9) rw_224_9 rfl (to_c (pc := 10) rw_224_10 (x := (2 : Int32)) rfl rfl (s_v (pc := 11) rw_224_11 (dp1 hd (by decide)) (ls0 := [.ref 77, .int (2 : Int32)]) rfl (Nat.le_of_ble_eq_true rfl) (Nat.le_of_ble_eq_true rfl) rfl (to_rc rfl rfl rfl (g_o hG rfl)) rfl (to_an (pc := 0) rw_152_0 rfl (to_in (pc := 1) rw_152_1 rfl (s_pI (pc := 2) rw_152_2 hG rfl (fun M472 W471 => ?_))))))
          have hG473 := g_wf hG W471 rfl rfl (by decide)
          have F474 := FR.w F0 W471 (show 77 = 77 ∧ (4 = 4 ∨ 4 = 5 ∨ 7 ≤ 4 ∧ 4 ≤ 10) ∨ 77 = 77 ∧ (4 = 59 ∨ 65 ≤ 4 ∧ 4 ≤ 69) ∨ 112 ≤ 77 ∧ 77 ≤ 114 ∧ 40 ≤ 4 ∨ 77 = 115 ∨ 77 = 116 by decide)
          refine to_an (pc := 5) rw_152_5 rfl (to_an (pc := 6) rw_152_6 rfl ?_)
          have c_475 : M472.2.1 77 10 = (M.2.1 77 10) := (W_n W471 (by decide) rfl)
          have b_476 := g_b hG (a := 77) (i := 10) (lo := 0) (hi := 500) rfl rfl
          refine tt_gI (pc := 7) rw_152_7 (g_o hG473 rfl) (v := (M.2.1 77 10)) c_475 (s_pI (pc := 10) rw_152_10 hG473 rfl (fun M478 W477 => ?_))
          have hG479 := g_wf hG473 W477 rfl rfl (by decide)
          have F480 := FR.w F474 W477 (show 77 = 77 ∧ (5 = 4 ∨ 5 = 5 ∨ 7 ≤ 5 ∧ 5 ≤ 10) ∨ 77 = 77 ∧ (5 = 59 ∨ 65 ≤ 5 ∧ 5 ≤ 69) ∨ 112 ≤ 77 ∧ 77 ≤ 114 ∧ 40 ≤ 5 ∨ 77 = 115 ∨ 77 = 116 by decide)
          refine to_c (pc := 13) rw_152_13 (x := (0 : Int32)) rfl rfl (s_r1 (pc := 14) rw_152_14 (A := 0) rfl (by decide) (s_r1 (pc := 14) rw_224_14 (A := 0) rfl (by decide) (b_ine_f (pc := 122) rw_225_122 (A := 0) rfl (by decide) (to_c (pc := 125) rw_225_125 (x := (0 : Int32)) rfl rfl (s_r1 (pc := 126) rw_225_126 (A := 0) rfl (by decide) ?_)))))
          have k_481 : (0 : Int32).toInt = 0 := rfl
          have c_482 : M478.2.1 77 7 = (M.2.1 77 7) := (W_n W477 (by decide) (W_n W471 (by decide) rfl))
          have t_483 : (M478.2.1 77 7).toInt = (M.2.1 77 7).toInt := congrArg Int32.toInt c_482
          have c_484 : M478.2.1 77 6 = (M.2.1 77 6) := (W_n W477 (by decide) (W_n W471 (by decide) rfl))
          have t_485 : (M478.2.1 77 6).toInt = (M.2.1 77 6).toInt := congrArg Int32.toInt c_484
          have c_486 : M478.2.1 77 8 = (M.2.1 77 8) := (W_n W477 (by decide) (W_n W471 (by decide) rfl))
          have t_487 : (M478.2.1 77 8).toInt = (M.2.1 77 8).toInt := congrArg Int32.toInt c_486
          have c_488 : M478.2.1 77 4 = (2 : Int32) := (W_n W477 (by decide) (W_e W471))
          have k_489 : (2 : Int32).toInt = 2 := rfl
          have t_490 : (M478.2.1 77 4).toInt = (2 : Int32).toInt := congrArg Int32.toInt c_488
          have c_491 : M478.2.1 77 5 = (M.2.1 77 10) := (W_e W477)
          have t_492 : (M478.2.1 77 5).toInt = (M.2.1 77 10).toInt := congrArg Int32.toInt c_491
          exact h (0 : Int32) M478 hG479 F480 (by decide) (by decide) (by omega) (by omega) (by omega) (by omega) (fun z => absurd z (by omega)) (by omega)
      · refine to_an (pc := 112) rw_225_112 rfl (to_c (pc := 113) rw_225_113 (x := (1 : Int32)) rfl rfl (s_v (pc := 114) rw_225_114 (dp0 hd (by decide)) (ls0 := [.ref 77, .int (1 : Int32)]) rfl (Nat.le_of_ble_eq_true rfl) (Nat.le_of_ble_eq_true rfl) rfl (to_rc rfl rfl rfl (g_o hG rfl)) rfl (to_an (pc := 0) rw_152_0 rfl (to_in (pc := 1) rw_152_1 rfl (s_pI (pc := 2) rw_152_2 hG rfl (fun M494 W493 => ?_))))))
        have hG495 := g_wf hG W493 rfl rfl (by decide)
        have F496 := FR.w F0 W493 (show 77 = 77 ∧ (4 = 4 ∨ 4 = 5 ∨ 7 ≤ 4 ∧ 4 ≤ 10) ∨ 77 = 77 ∧ (4 = 59 ∨ 65 ≤ 4 ∧ 4 ≤ 69) ∨ 112 ≤ 77 ∧ 77 ≤ 114 ∧ 40 ≤ 4 ∨ 77 = 115 ∨ 77 = 116 by decide)
        refine to_an (pc := 5) rw_152_5 rfl (to_an (pc := 6) rw_152_6 rfl ?_)
        have c_497 : M494.2.1 77 10 = (M.2.1 77 10) := (W_n W493 (by decide) rfl)
        have b_498 := g_b hG (a := 77) (i := 10) (lo := 0) (hi := 500) rfl rfl
        refine tt_gI (pc := 7) rw_152_7 (g_o hG495 rfl) (v := (M.2.1 77 10)) c_497 (s_pI (pc := 10) rw_152_10 hG495 rfl (fun M500 W499 => ?_))
        have hG501 := g_wf hG495 W499 rfl rfl (by decide)
        have F502 := FR.w F496 W499 (show 77 = 77 ∧ (5 = 4 ∨ 5 = 5 ∨ 7 ≤ 5 ∧ 5 ≤ 10) ∨ 77 = 77 ∧ (5 = 59 ∨ 65 ≤ 5 ∧ 5 ≤ 69) ∨ 112 ≤ 77 ∧ 77 ≤ 114 ∧ 40 ≤ 5 ∨ 77 = 115 ∨ 77 = 116 by decide)
        refine to_c (pc := 13) rw_152_13 (x := (0 : Int32)) rfl rfl (s_r1 (pc := 14) rw_152_14 (A := 0) rfl (by decide) (s_r1 (pc := 117) rw_225_117 (A := 0) rfl (by decide) ?_))
        have k_503 : (0 : Int32).toInt = 0 := rfl
        have c_504 : M500.2.1 77 7 = (M.2.1 77 7) := (W_n W499 (by decide) (W_n W493 (by decide) rfl))
        have t_505 : (M500.2.1 77 7).toInt = (M.2.1 77 7).toInt := congrArg Int32.toInt c_504
        have c_506 : M500.2.1 77 6 = (M.2.1 77 6) := (W_n W499 (by decide) (W_n W493 (by decide) rfl))
        have t_507 : (M500.2.1 77 6).toInt = (M.2.1 77 6).toInt := congrArg Int32.toInt c_506
        have c_508 : M500.2.1 77 8 = (M.2.1 77 8) := (W_n W499 (by decide) (W_n W493 (by decide) rfl))
        have t_509 : (M500.2.1 77 8).toInt = (M.2.1 77 8).toInt := congrArg Int32.toInt c_508
        have c_510 : M500.2.1 77 4 = (1 : Int32) := (W_n W499 (by decide) (W_e W493))
        have k_511 : (1 : Int32).toInt = 1 := rfl
        have t_512 : (M500.2.1 77 4).toInt = (1 : Int32).toInt := congrArg Int32.toInt c_510
        have c_513 : M500.2.1 77 5 = (M.2.1 77 10) := (W_e W499)
        have t_514 : (M500.2.1 77 5).toInt = (M.2.1 77 10).toInt := congrArg Int32.toInt c_513
        exact h (0 : Int32) M500 hG501 F502 (by decide) (by decide) (by omega) (by omega) (by omega) (by omega) (fun z => absurd z (by omega)) (by omega)
    · refine to_an (pc := 8) rw_158_8 rfl (tt_gI (pc := 9) rw_158_9 (g_o hG rfl) (v := (M.2.1 77 9)) rfl (to_in (pc := 12) rw_158_12 rfl (b_cne (pc := 13) rw_158_13 (A := (M.2.1 77 9).toInt) (B := 14) rfl rfl (fun h515 => ?_) (fun h515 => ?_))))
      · refine to_c (pc := 20) rw_158_20 (x := (0 : Int32)) rfl rfl (s_r1 (pc := 21) rw_158_21 (A := 0) rfl (by decide) (b_ieq_t (pc := 66) rw_225_66 (A := 0) rfl (by decide) (to_an (pc := 104) rw_225_104 rfl (tt_gI (pc := 105) rw_225_105 (g_o hG rfl) (v := (M.2.1 77 8)) rfl (to_c (pc := 108) rw_225_108 (x := (2 : Int32)) rfl rfl (b_ceq_f (pc := 109) rw_225_109 (A := (M.2.1 77 8).toInt) (B := 2) rfl rfl (by omega) (to_an (pc := 112) rw_225_112 rfl (to_c (pc := 113) rw_225_113 (x := (1 : Int32)) rfl rfl (s_v (pc := 114) rw_225_114 (dp0 hd (by decide)) (ls0 := [.ref 77, .int (1 : Int32)]) rfl (Nat.le_of_ble_eq_true rfl) (Nat.le_of_ble_eq_true rfl) rfl (to_rc rfl rfl rfl (g_o hG rfl)) rfl (to_an (pc := 0) rw_152_0 rfl (to_in (pc := 1) rw_152_1 rfl ?_)))))))))))
        refine s_pI (pc := 2) rw_152_2 hG rfl (fun M517 W516 => ?_)
        have hG518 := g_wf hG W516 rfl rfl (by decide)
        have F519 := FR.w F0 W516 (show 77 = 77 ∧ (4 = 4 ∨ 4 = 5 ∨ 7 ≤ 4 ∧ 4 ≤ 10) ∨ 77 = 77 ∧ (4 = 59 ∨ 65 ≤ 4 ∧ 4 ≤ 69) ∨ 112 ≤ 77 ∧ 77 ≤ 114 ∧ 40 ≤ 4 ∨ 77 = 115 ∨ 77 = 116 by decide)
        refine to_an (pc := 5) rw_152_5 rfl (to_an (pc := 6) rw_152_6 rfl ?_)
        have c_520 : M517.2.1 77 10 = (M.2.1 77 10) := (W_n W516 (by decide) rfl)
        have b_521 := g_b hG (a := 77) (i := 10) (lo := 0) (hi := 500) rfl rfl
        refine tt_gI (pc := 7) rw_152_7 (g_o hG518 rfl) (v := (M.2.1 77 10)) c_520 (s_pI (pc := 10) rw_152_10 hG518 rfl (fun M523 W522 => ?_))
        have hG524 := g_wf hG518 W522 rfl rfl (by decide)
        have F525 := FR.w F519 W522 (show 77 = 77 ∧ (5 = 4 ∨ 5 = 5 ∨ 7 ≤ 5 ∧ 5 ≤ 10) ∨ 77 = 77 ∧ (5 = 59 ∨ 65 ≤ 5 ∧ 5 ≤ 69) ∨ 112 ≤ 77 ∧ 77 ≤ 114 ∧ 40 ≤ 5 ∨ 77 = 115 ∨ 77 = 116 by decide)
        refine to_c (pc := 13) rw_152_13 (x := (0 : Int32)) rfl rfl (s_r1 (pc := 14) rw_152_14 (A := 0) rfl (by decide) (s_r1 (pc := 117) rw_225_117 (A := 0) rfl (by decide) ?_))
        have k_526 : (0 : Int32).toInt = 0 := rfl
        have c_527 : M523.2.1 77 7 = (M.2.1 77 7) := (W_n W522 (by decide) (W_n W516 (by decide) rfl))
        have t_528 : (M523.2.1 77 7).toInt = (M.2.1 77 7).toInt := congrArg Int32.toInt c_527
        have c_529 : M523.2.1 77 6 = (M.2.1 77 6) := (W_n W522 (by decide) (W_n W516 (by decide) rfl))
        have t_530 : (M523.2.1 77 6).toInt = (M.2.1 77 6).toInt := congrArg Int32.toInt c_529
        have c_531 : M523.2.1 77 8 = (M.2.1 77 8) := (W_n W522 (by decide) (W_n W516 (by decide) rfl))
        have t_532 : (M523.2.1 77 8).toInt = (M.2.1 77 8).toInt := congrArg Int32.toInt c_531
        have c_533 : M523.2.1 77 4 = (1 : Int32) := (W_n W522 (by decide) (W_e W516))
        have k_534 : (1 : Int32).toInt = 1 := rfl
        have t_535 : (M523.2.1 77 4).toInt = (1 : Int32).toInt := congrArg Int32.toInt c_533
        have c_536 : M523.2.1 77 5 = (M.2.1 77 10) := (W_e W522)
        have t_537 : (M523.2.1 77 5).toInt = (M.2.1 77 10).toInt := congrArg Int32.toInt c_536
        exact h (0 : Int32) M523 hG524 F525 (by decide) (by decide) (by omega) (by omega) (by omega) (by omega) (fun z => absurd z (by omega)) (by omega)
      · refine to_c (pc := 16) rw_158_16 (x := (1 : Int32)) rfl rfl (to_go (pc := 17) rw_158_17 (s_r1 (pc := 21) rw_158_21 (A := 1) rfl (by decide) (b_ieq_f (pc := 66) rw_225_66 (A := 1) rfl (by decide) (to_an (pc := 69) rw_225_69 rfl (s_v (pc := 70) rw_225_70 (dp0 hd (by decide)) (ls0 := [.ref 77]) rfl (Nat.le_of_ble_eq_true rfl) (Nat.le_of_ble_eq_true rfl) rfl (to_rc rfl rfl rfl (g_o hG rfl)) rfl (to_an (pc := 0) rw_224_0 rfl (tt_gI (pc := 1) rw_224_1 (g_o hG rfl) (v := (M.2.1 77 69)) rfl (to_c (pc := 4) rw_224_4 (x := (40 : Int32)) rfl rfl (b_cne (pc := 6) rw_224_6 (A := (M.2.1 77 69).toInt) (B := 40) rfl rfl (fun h538 => ?_) (fun h538 => ?_))))))))))
        · refine to_an (pc := 15) rw_224_15 rfl (to_dupr (pc := 16) rw_224_16 (tt_gI (pc := 17) rw_224_17 (g_o hG rfl) (v := (M.2.1 77 69)) rfl (to_c (pc := 20) rw_224_20 (x := (1 : Int32)) rfl rfl (s_add (pc := 21) rw_224_21 (A := (M.2.1 77 69).toInt) (B := 1) rfl rfl (by omega) (fun v539 e540 => s_pI (pc := 22) rw_224_22 hG rfl (fun M542 W541 => ?_))))))
          have hG543 := g_w hG W541 (A := v539.toInt) rfl (lo := 0) (hi := 40) rfl rfl (by omega) (by decide)
          have F544 := FR.w F0 W541 (show 77 = 77 ∧ (69 = 4 ∨ 69 = 5 ∨ 7 ≤ 69 ∧ 69 ≤ 10) ∨ 77 = 77 ∧ (69 = 59 ∨ 65 ≤ 69 ∧ 69 ≤ 69) ∨ 112 ≤ 77 ∧ 77 ≤ 114 ∧ 40 ≤ 69 ∨ 77 = 115 ∨ 77 = 116 by decide)
          refine to_c (pc := 25) rw_224_25 (x := (1 : Int32)) rfl rfl (s_r1 (pc := 26) rw_224_26 (A := 1) rfl (by decide) (b_ine_t (pc := 73) rw_225_73 (A := 1) rfl (by decide) (to_an (pc := 78) rw_225_78 rfl (s_gR (pc := 79) rw_225_79 hG543 rfl (v := 115) rfl (to_an (pc := 82) rw_225_82 rfl ?_)))))
          have c_545 : M542.2.1 77 65 = (M.2.1 77 65) := (W_n W541 (by decide) rfl)
          refine tt_gI (pc := 83) rw_225_83 (g_o hG543 rfl) (v := (M.2.1 77 65)) c_545 (to_c (pc := 86) rw_225_86 (x := (2 : Int32)) rfl rfl (s_ias (pc := 87) rw_225_87 hG543 rfl (n := 64) rfl (A := (M.2.1 77 65).toInt) rfl (by omega) (by omega) (fun M547 W546 => ?_)))
          have hG548 := g_w hG543 W546 (A := 2) rfl (lo := 0) (hi := 4) rfl rfl (by omega) (by decide)
          have F549 := FR.w F544 W546 (show 115 = 77 ∧ (((M.2.1 77 65).toInt).toNat = 4 ∨ ((M.2.1 77 65).toInt).toNat = 5 ∨ 7 ≤ ((M.2.1 77 65).toInt).toNat ∧ ((M.2.1 77 65).toInt).toNat ≤ 10) ∨ 115 = 77 ∧ (((M.2.1 77 65).toInt).toNat = 59 ∨ 65 ≤ ((M.2.1 77 65).toInt).toNat ∧ ((M.2.1 77 65).toInt).toNat ≤ 69) ∨ 112 ≤ 115 ∧ 115 ≤ 114 ∧ 40 ≤ ((M.2.1 77 65).toInt).toNat ∨ 115 = 115 ∨ 115 = 116 by omega)
          refine to_an (pc := 88) rw_225_88 rfl (to_dupr (pc := 89) rw_225_89 ?_)
          have c_550 : M547.2.1 77 65 = (M.2.1 77 65) := (W_n W546 (fun z => absurd z.1 (by decide)) c_545)
          refine tt_gI (pc := 90) rw_225_90 (g_o hG548 rfl) (v := (M.2.1 77 65)) c_550 (to_c (pc := 93) rw_225_93 (x := (1 : Int32)) rfl rfl (s_add (pc := 94) rw_225_94 (A := (M.2.1 77 65).toInt) (B := 1) rfl rfl (by omega) (fun v551 e552 => s_pI (pc := 95) rw_225_95 hG548 rfl (fun M554 W553 => ?_))))
          have hG555 := g_w hG548 W553 (A := v551.toInt) rfl (lo := 0) (hi := 48) rfl rfl (by omega) (by decide)
          have F556 := FR.w F549 W553 (show 77 = 77 ∧ (65 = 4 ∨ 65 = 5 ∨ 7 ≤ 65 ∧ 65 ≤ 10) ∨ 77 = 77 ∧ (65 = 59 ∨ 65 ≤ 65 ∧ 65 ≤ 69) ∨ 112 ≤ 77 ∧ 77 ≤ 114 ∧ 40 ≤ 65 ∨ 77 = 115 ∨ 77 = 116 by decide)
          refine to_an (pc := 98) rw_225_98 rfl (s_v (pc := 99) rw_225_99 (dp0 hd (by decide)) (ls0 := [.ref 77]) rfl (Nat.le_of_ble_eq_true rfl) (Nat.le_of_ble_eq_true rfl) rfl (to_rc rfl rfl rfl (g_o hG555 rfl)) rfl ?_)
          have c_557 : M554.2.1 77 7 = (M.2.1 77 7) := (W_n W553 (by decide) (W_n W546 (fun z => absurd z.1 (by decide)) (W_n W541 (by decide) rfl)))
          have t_558 : (M554.2.1 77 7).toInt = (M.2.1 77 7).toInt := congrArg Int32.toInt c_557
          have c_559 : M554.2.1 77 6 = (M.2.1 77 6) := (W_n W553 (by decide) (W_n W546 (fun z => absurd z.1 (by decide)) (W_n W541 (by decide) rfl)))
          have t_560 : (M554.2.1 77 6).toInt = (M.2.1 77 6).toInt := congrArg Int32.toInt c_559
          refine C_156 hX (dp1 hd (by decide)) hG555 (by omega)  (fun M566 hG562 F561 p_563 p_564 p_565 => ?_)
          have F567 := FR.c F556 F561 tg_389
          have b_568 := g_b hG562 (a := 77) (i := 7) (lo := 0) (hi := 500) rfl rfl
          have c_569 : M566.2.1 77 6 = (M.2.1 77 6) := (F_n F561 (show ¬ (77 = 77 ∧ 7 ≤ 6 ∧ 6 ≤ 10) by decide) c_559)
          have t_570 : (M566.2.1 77 6).toInt = (M.2.1 77 6).toInt := congrArg Int32.toInt c_569
          have b_571 := g_b hG562 (a := 77) (i := 8) (lo := 0) (hi := 5) rfl rfl
          refine to_c (pc := 102) rw_225_102 (x := (1 : Int32)) rfl rfl (s_r1 (pc := 103) rw_225_103 (A := 1) rfl (by decide) ?_)
          have k_572 : (1 : Int32).toInt = 1 := rfl
          have c_573 : M566.2.1 77 59 = (M.2.1 77 59) := (F_n F561 (show ¬ (77 = 77 ∧ 7 ≤ 59 ∧ 59 ≤ 10) by decide) (W_n W553 (by decide) (W_n W546 (fun z => absurd z.1 (by decide)) (W_n W541 (by decide) rfl))))
          have t_574 : (M566.2.1 77 59).toInt = (M.2.1 77 59).toInt := congrArg Int32.toInt c_573
          have c_575 : M566.2.1 77 65 = v551 := (F_n F561 (show ¬ (77 = 77 ∧ 7 ≤ 65 ∧ 65 ≤ 10) by decide) (W_e W553))
          have t_576 : (M566.2.1 77 65).toInt = v551.toInt := congrArg Int32.toInt c_575
          have c_577 : M566.2.1 77 66 = (M.2.1 77 66) := (F_n F561 (show ¬ (77 = 77 ∧ 7 ≤ 66 ∧ 66 ≤ 10) by decide) (W_n W553 (by decide) (W_n W546 (fun z => absurd z.1 (by decide)) (W_n W541 (by decide) rfl))))
          have t_578 : (M566.2.1 77 66).toInt = (M.2.1 77 66).toInt := congrArg Int32.toInt c_577
          have c_579 : M566.2.1 77 67 = (M.2.1 77 67) := (F_n F561 (show ¬ (77 = 77 ∧ 7 ≤ 67 ∧ 67 ≤ 10) by decide) (W_n W553 (by decide) (W_n W546 (fun z => absurd z.1 (by decide)) (W_n W541 (by decide) rfl))))
          have t_580 : (M566.2.1 77 67).toInt = (M.2.1 77 67).toInt := congrArg Int32.toInt c_579
          have c_581 : M566.2.1 77 68 = (M.2.1 77 68) := (F_n F561 (show ¬ (77 = 77 ∧ 7 ≤ 68 ∧ 68 ≤ 10) by decide) (W_n W553 (by decide) (W_n W546 (fun z => absurd z.1 (by decide)) (W_n W541 (by decide) rfl))))
          have t_582 : (M566.2.1 77 68).toInt = (M.2.1 77 68).toInt := congrArg Int32.toInt c_581
          have c_583 : M566.2.1 77 69 = v539 := (F_n F561 (show ¬ (77 = 77 ∧ 7 ≤ 69 ∧ 69 ≤ 10) by decide) (W_n W553 (by decide) (W_n W546 (fun z => absurd z.1 (by decide)) (W_e W541))))
          have t_584 : (M566.2.1 77 69).toInt = v539.toInt := congrArg Int32.toInt c_583
          have k_586 : (2 : Int32).toInt = 2 := rfl
          have s_587 := Wx_f (M := M) (M1 := M566) ((M.2.1 77 65).toInt).toNat (fun i z => (F_n F561 (show ¬ (115 = 77 ∧ 7 ≤ i ∧ i ≤ 10) by omega) (W_n W553 (by omega) (W_n W546 (by omega) (W_n W541 (by omega) rfl)))))
          have s_588 : (M566.2.1 115 ((M.2.1 77 65).toInt).toNat).toInt = (2 : Int32).toInt := by rw [show ((M.2.1 77 65).toInt).toNat = ((M.2.1 77 65).toInt).toNat by omega]; exact congrArg Int32.toInt (F_n F561 (show ¬ (115 = 77 ∧ 7 ≤ (((M.2.1 77 65).toInt).toNat) ∧ (((M.2.1 77 65).toInt).toNat) ≤ 10) by omega) (W_n W553 (by omega) (W_e W546)))
          have s_589 := Wx_s M566 ((M.2.1 77 65).toInt).toNat
          have j_585 : QK M566 := QK_i (by unfold QK_c; rw [show ((M566.2.1 77 65).toInt).toNat = ((M.2.1 77 65).toInt).toNat + 1 by omega]; refine ⟨by omega, by omega, by omega, by omega⟩) (fun i z => by
              by_cases ei : i = ((M.2.1 77 65).toInt).toNat
              · rw [ei]; omega
              · rw [(F_n F561 (show ¬ (115 = 77 ∧ 7 ≤ i ∧ i ≤ 10) by omega) (W_n W553 (by omega) (W_n W546 (by omega) (W_n W541 (by omega) rfl))))]; exact q2.2.1 i (by omega)) (by rw [(F_n F561 (show ¬ (77 = 77 ∧ 7 ≤ 59 ∧ 59 ≤ 10) by decide) (W_n W553 (by omega) (W_n W546 (by omega) (W_n W541 (by omega) rfl))))]; exact KN_f (fun a i z => (F_n F561 (show ¬ (a = 77 ∧ 7 ≤ i ∧ i ≤ 10) by omega) (W_n W553 (by /-r77,65-/ omega) (W_n W546 (by /-r115-/ omega) (W_n W541 (by /-r77,69-/ omega) rfl))))) q2.2.2)
          have c_590 : M566.2.1 77 4 = (M.2.1 77 4) := (F_n F561 (show ¬ (77 = 77 ∧ 7 ≤ 4 ∧ 4 ≤ 10) by decide) (W_n W553 (by decide) (W_n W546 (fun z => absurd z.1 (by decide)) (W_n W541 (by decide) rfl))))
          have t_591 : (M566.2.1 77 4).toInt = (M.2.1 77 4).toInt := congrArg Int32.toInt c_590
          have c_592 : M566.2.1 77 5 = (M.2.1 77 5) := (F_n F561 (show ¬ (77 = 77 ∧ 7 ≤ 5 ∧ 5 ≤ 10) by decide) (W_n W553 (by decide) (W_n W546 (fun z => absurd z.1 (by decide)) (W_n W541 (by decide) rfl))))
          have t_593 : (M566.2.1 77 5).toInt = (M.2.1 77 5).toInt := congrArg Int32.toInt c_592
          exact h (1 : Int32) M566 hG562 F567 (by decide) (by decide) (by omega) (by omega) (by omega) (by omega) (fun _ => j_585) (by omega)
        · refine to_an (pc := 9) rw_224_9 rfl (to_c (pc := 10) rw_224_10 (x := (2 : Int32)) rfl rfl (s_v (pc := 11) rw_224_11 (dp1 hd (by decide)) (ls0 := [.ref 77, .int (2 : Int32)]) rfl (Nat.le_of_ble_eq_true rfl) (Nat.le_of_ble_eq_true rfl) rfl (to_rc rfl rfl rfl (g_o hG rfl)) rfl (to_an (pc := 0) rw_152_0 rfl (to_in (pc := 1) rw_152_1 rfl (s_pI (pc := 2) rw_152_2 hG rfl (fun M595 W594 => ?_))))))
          have hG596 := g_wf hG W594 rfl rfl (by decide)
          have F597 := FR.w F0 W594 (show 77 = 77 ∧ (4 = 4 ∨ 4 = 5 ∨ 7 ≤ 4 ∧ 4 ≤ 10) ∨ 77 = 77 ∧ (4 = 59 ∨ 65 ≤ 4 ∧ 4 ≤ 69) ∨ 112 ≤ 77 ∧ 77 ≤ 114 ∧ 40 ≤ 4 ∨ 77 = 115 ∨ 77 = 116 by decide)
          refine to_an (pc := 5) rw_152_5 rfl (to_an (pc := 6) rw_152_6 rfl ?_)
          have c_598 : M595.2.1 77 10 = (M.2.1 77 10) := (W_n W594 (by decide) rfl)
          have b_599 := g_b hG (a := 77) (i := 10) (lo := 0) (hi := 500) rfl rfl
          refine tt_gI (pc := 7) rw_152_7 (g_o hG596 rfl) (v := (M.2.1 77 10)) c_598 (s_pI (pc := 10) rw_152_10 hG596 rfl (fun M601 W600 => ?_))
          have hG602 := g_wf hG596 W600 rfl rfl (by decide)
          have F603 := FR.w F597 W600 (show 77 = 77 ∧ (5 = 4 ∨ 5 = 5 ∨ 7 ≤ 5 ∧ 5 ≤ 10) ∨ 77 = 77 ∧ (5 = 59 ∨ 65 ≤ 5 ∧ 5 ≤ 69) ∨ 112 ≤ 77 ∧ 77 ≤ 114 ∧ 40 ≤ 5 ∨ 77 = 115 ∨ 77 = 116 by decide)
          refine to_c (pc := 13) rw_152_13 (x := (0 : Int32)) rfl rfl (s_r1 (pc := 14) rw_152_14 (A := 0) rfl (by decide) (s_r1 (pc := 14) rw_224_14 (A := 0) rfl (by decide) (b_ine_f (pc := 73) rw_225_73 (A := 0) rfl (by decide) (to_c (pc := 76) rw_225_76 (x := (0 : Int32)) rfl rfl (s_r1 (pc := 77) rw_225_77 (A := 0) rfl (by decide) ?_)))))
          have k_604 : (0 : Int32).toInt = 0 := rfl
          have c_605 : M601.2.1 77 7 = (M.2.1 77 7) := (W_n W600 (by decide) (W_n W594 (by decide) rfl))
          have t_606 : (M601.2.1 77 7).toInt = (M.2.1 77 7).toInt := congrArg Int32.toInt c_605
          have c_607 : M601.2.1 77 6 = (M.2.1 77 6) := (W_n W600 (by decide) (W_n W594 (by decide) rfl))
          have t_608 : (M601.2.1 77 6).toInt = (M.2.1 77 6).toInt := congrArg Int32.toInt c_607
          have c_609 : M601.2.1 77 8 = (M.2.1 77 8) := (W_n W600 (by decide) (W_n W594 (by decide) rfl))
          have t_610 : (M601.2.1 77 8).toInt = (M.2.1 77 8).toInt := congrArg Int32.toInt c_609
          have c_611 : M601.2.1 77 4 = (2 : Int32) := (W_n W600 (by decide) (W_e W594))
          have k_612 : (2 : Int32).toInt = 2 := rfl
          have t_613 : (M601.2.1 77 4).toInt = (2 : Int32).toInt := congrArg Int32.toInt c_611
          have c_614 : M601.2.1 77 5 = (M.2.1 77 10) := (W_e W600)
          have t_615 : (M601.2.1 77 5).toInt = (M.2.1 77 10).toInt := congrArg Int32.toInt c_614
          exact h (0 : Int32) M601 hG602 F603 (by decide) (by decide) (by omega) (by omega) (by omega) (by omega) (fun z => absurd z (by omega)) (by omega)
  · refine to_an (pc := 8) rw_159_8 rfl (tt_gI (pc := 9) rw_159_9 (g_o hG rfl) (v := (M.2.1 77 9)) rfl (to_in (pc := 12) rw_159_12 rfl (b_cne (pc := 13) rw_159_13 (A := (M.2.1 77 9).toInt) (B := 40) rfl rfl (fun h616 => ?_) (fun h616 => ?_))))
    · refine to_c (pc := 20) rw_159_20 (x := (0 : Int32)) rfl rfl (s_r1 (pc := 21) rw_159_21 (A := 0) rfl (by decide) (b_ieq_t (pc := 6) rw_225_6 (A := 0) rfl (by decide) (to_an (pc := 60) rw_225_60 rfl (to_c (pc := 61) rw_225_61 (x := (14 : Int32)) rfl rfl (s_v (pc := 63) rw_225_63 (dp0 hd (by decide)) (ls0 := [.ref 77, .int (14 : Int32)]) rfl (Nat.le_of_ble_eq_true rfl) (Nat.le_of_ble_eq_true rfl) rfl (to_rc rfl rfl rfl (g_o hG rfl)) rfl (to_an (pc := 0) rw_158_0 rfl (tt_gI (pc := 1) rw_158_1 (g_o hG rfl) (v := (M.2.1 77 8)) rfl (to_c (pc := 4) rw_158_4 (x := (1 : Int32)) rfl rfl (b_cne_t (pc := 5) rw_158_5 (A := (M.2.1 77 8).toInt) (B := 1) rfl rfl (by omega) (to_c (pc := 20) rw_158_20 (x := (0 : Int32)) rfl rfl (s_r1 (pc := 21) rw_158_21 (A := 0) rfl (by decide) ?_)))))))))))
      refine b_ieq_t (pc := 66) rw_225_66 (A := 0) rfl (by decide) (to_an (pc := 104) rw_225_104 rfl (tt_gI (pc := 105) rw_225_105 (g_o hG rfl) (v := (M.2.1 77 8)) rfl (to_c (pc := 108) rw_225_108 (x := (2 : Int32)) rfl rfl (b_ceq_f (pc := 109) rw_225_109 (A := (M.2.1 77 8).toInt) (B := 2) rfl rfl (by omega) (to_an (pc := 112) rw_225_112 rfl (to_c (pc := 113) rw_225_113 (x := (1 : Int32)) rfl rfl (s_v (pc := 114) rw_225_114 (dp0 hd (by decide)) (ls0 := [.ref 77, .int (1 : Int32)]) rfl (Nat.le_of_ble_eq_true rfl) (Nat.le_of_ble_eq_true rfl) rfl (to_rc rfl rfl rfl (g_o hG rfl)) rfl (to_an (pc := 0) rw_152_0 rfl (to_in (pc := 1) rw_152_1 rfl (s_pI (pc := 2) rw_152_2 hG rfl (fun M618 W617 => ?_)))))))))))
      have hG619 := g_wf hG W617 rfl rfl (by decide)
      have F620 := FR.w F0 W617 (show 77 = 77 ∧ (4 = 4 ∨ 4 = 5 ∨ 7 ≤ 4 ∧ 4 ≤ 10) ∨ 77 = 77 ∧ (4 = 59 ∨ 65 ≤ 4 ∧ 4 ≤ 69) ∨ 112 ≤ 77 ∧ 77 ≤ 114 ∧ 40 ≤ 4 ∨ 77 = 115 ∨ 77 = 116 by decide)
      refine to_an (pc := 5) rw_152_5 rfl (to_an (pc := 6) rw_152_6 rfl ?_)
      have c_621 : M618.2.1 77 10 = (M.2.1 77 10) := (W_n W617 (by decide) rfl)
      have b_622 := g_b hG (a := 77) (i := 10) (lo := 0) (hi := 500) rfl rfl
      refine tt_gI (pc := 7) rw_152_7 (g_o hG619 rfl) (v := (M.2.1 77 10)) c_621 (s_pI (pc := 10) rw_152_10 hG619 rfl (fun M624 W623 => ?_))
      have hG625 := g_wf hG619 W623 rfl rfl (by decide)
      have F626 := FR.w F620 W623 (show 77 = 77 ∧ (5 = 4 ∨ 5 = 5 ∨ 7 ≤ 5 ∧ 5 ≤ 10) ∨ 77 = 77 ∧ (5 = 59 ∨ 65 ≤ 5 ∧ 5 ≤ 69) ∨ 112 ≤ 77 ∧ 77 ≤ 114 ∧ 40 ≤ 5 ∨ 77 = 115 ∨ 77 = 116 by decide)
      refine to_c (pc := 13) rw_152_13 (x := (0 : Int32)) rfl rfl (s_r1 (pc := 14) rw_152_14 (A := 0) rfl (by decide) (s_r1 (pc := 117) rw_225_117 (A := 0) rfl (by decide) ?_))
      have k_627 : (0 : Int32).toInt = 0 := rfl
      have c_628 : M624.2.1 77 7 = (M.2.1 77 7) := (W_n W623 (by decide) (W_n W617 (by decide) rfl))
      have t_629 : (M624.2.1 77 7).toInt = (M.2.1 77 7).toInt := congrArg Int32.toInt c_628
      have c_630 : M624.2.1 77 6 = (M.2.1 77 6) := (W_n W623 (by decide) (W_n W617 (by decide) rfl))
      have t_631 : (M624.2.1 77 6).toInt = (M.2.1 77 6).toInt := congrArg Int32.toInt c_630
      have c_632 : M624.2.1 77 8 = (M.2.1 77 8) := (W_n W623 (by decide) (W_n W617 (by decide) rfl))
      have t_633 : (M624.2.1 77 8).toInt = (M.2.1 77 8).toInt := congrArg Int32.toInt c_632
      have c_634 : M624.2.1 77 4 = (1 : Int32) := (W_n W623 (by decide) (W_e W617))
      have k_635 : (1 : Int32).toInt = 1 := rfl
      have t_636 : (M624.2.1 77 4).toInt = (1 : Int32).toInt := congrArg Int32.toInt c_634
      have c_637 : M624.2.1 77 5 = (M.2.1 77 10) := (W_e W623)
      have t_638 : (M624.2.1 77 5).toInt = (M.2.1 77 10).toInt := congrArg Int32.toInt c_637
      exact h (0 : Int32) M624 hG625 F626 (by decide) (by decide) (by omega) (by omega) (by omega) (by omega) (fun z => absurd z (by omega)) (by omega)
    · refine to_c (pc := 16) rw_159_16 (x := (1 : Int32)) rfl rfl (to_go (pc := 17) rw_159_17 (s_r1 (pc := 21) rw_159_21 (A := 1) rfl (by decide) (b_ieq_f (pc := 6) rw_225_6 (A := 1) rfl (by decide) (to_an (pc := 9) rw_225_9 rfl (tt_gI (pc := 10) rw_225_10 (g_o hG rfl) (v := (M.2.1 77 67)) rfl (to_c (pc := 13) rw_225_13 (x := (8 : Int32)) rfl rfl (b_cne (pc := 15) rw_225_15 (A := (M.2.1 77 67).toInt) (B := 8) rfl rfl (fun h639 => ?_) (fun h639 => ?_))))))))
      · refine to_an (pc := 24) rw_225_24 rfl (to_dupr (pc := 25) rw_225_25 (tt_gI (pc := 26) rw_225_26 (g_o hG rfl) (v := (M.2.1 77 67)) rfl (to_c (pc := 29) rw_225_29 (x := (1 : Int32)) rfl rfl (s_add (pc := 30) rw_225_30 (A := (M.2.1 77 67).toInt) (B := 1) rfl rfl (by omega) (fun v640 e641 => s_pI (pc := 31) rw_225_31 hG rfl (fun M643 W642 => ?_))))))
        have hG644 := g_w hG W642 (A := v640.toInt) rfl (lo := 0) (hi := 8) rfl rfl (by omega) (by decide)
        have F645 := FR.w F0 W642 (show 77 = 77 ∧ (67 = 4 ∨ 67 = 5 ∨ 7 ≤ 67 ∧ 67 ≤ 10) ∨ 77 = 77 ∧ (67 = 59 ∨ 65 ≤ 67 ∧ 67 ≤ 69) ∨ 112 ≤ 77 ∧ 77 ≤ 114 ∧ 40 ≤ 67 ∨ 77 = 115 ∨ 77 = 116 by decide)
        refine to_an (pc := 34) rw_225_34 rfl (s_gR (pc := 35) rw_225_35 hG644 rfl (v := 115) rfl (to_an (pc := 38) rw_225_38 rfl ?_))
        have c_646 : M643.2.1 77 65 = (M.2.1 77 65) := (W_n W642 (by decide) rfl)
        refine tt_gI (pc := 39) rw_225_39 (g_o hG644 rfl) (v := (M.2.1 77 65)) c_646 (to_c (pc := 42) rw_225_42 (x := (0 : Int32)) rfl rfl (s_ias (pc := 43) rw_225_43 hG644 rfl (n := 64) rfl (A := (M.2.1 77 65).toInt) rfl (by omega) (by omega) (fun M648 W647 => ?_)))
        have hG649 := g_w hG644 W647 (A := 0) rfl (lo := 0) (hi := 4) rfl rfl (by omega) (by decide)
        have F650 := FR.w F645 W647 (show 115 = 77 ∧ (((M.2.1 77 65).toInt).toNat = 4 ∨ ((M.2.1 77 65).toInt).toNat = 5 ∨ 7 ≤ ((M.2.1 77 65).toInt).toNat ∧ ((M.2.1 77 65).toInt).toNat ≤ 10) ∨ 115 = 77 ∧ (((M.2.1 77 65).toInt).toNat = 59 ∨ 65 ≤ ((M.2.1 77 65).toInt).toNat ∧ ((M.2.1 77 65).toInt).toNat ≤ 69) ∨ 112 ≤ 115 ∧ 115 ≤ 114 ∧ 40 ≤ ((M.2.1 77 65).toInt).toNat ∨ 115 = 115 ∨ 115 = 116 by omega)
        refine to_an (pc := 44) rw_225_44 rfl (to_dupr (pc := 45) rw_225_45 ?_)
        have c_651 : M648.2.1 77 65 = (M.2.1 77 65) := (W_n W647 (fun z => absurd z.1 (by decide)) c_646)
        refine tt_gI (pc := 46) rw_225_46 (g_o hG649 rfl) (v := (M.2.1 77 65)) c_651 (to_c (pc := 49) rw_225_49 (x := (1 : Int32)) rfl rfl (s_add (pc := 50) rw_225_50 (A := (M.2.1 77 65).toInt) (B := 1) rfl rfl (by omega) (fun v652 e653 => s_pI (pc := 51) rw_225_51 hG649 rfl (fun M655 W654 => ?_))))
        have hG656 := g_w hG649 W654 (A := v652.toInt) rfl (lo := 0) (hi := 48) rfl rfl (by omega) (by decide)
        have F657 := FR.w F650 W654 (show 77 = 77 ∧ (65 = 4 ∨ 65 = 5 ∨ 7 ≤ 65 ∧ 65 ≤ 10) ∨ 77 = 77 ∧ (65 = 59 ∨ 65 ≤ 65 ∧ 65 ≤ 69) ∨ 112 ≤ 77 ∧ 77 ≤ 114 ∧ 40 ≤ 65 ∨ 77 = 115 ∨ 77 = 116 by decide)
        refine to_an (pc := 54) rw_225_54 rfl (s_v (pc := 55) rw_225_55 (dp0 hd (by decide)) (ls0 := [.ref 77]) rfl (Nat.le_of_ble_eq_true rfl) (Nat.le_of_ble_eq_true rfl) rfl (to_rc rfl rfl rfl (g_o hG656 rfl)) rfl ?_)
        have c_658 : M655.2.1 77 7 = (M.2.1 77 7) := (W_n W654 (by decide) (W_n W647 (fun z => absurd z.1 (by decide)) (W_n W642 (by decide) rfl)))
        have t_659 : (M655.2.1 77 7).toInt = (M.2.1 77 7).toInt := congrArg Int32.toInt c_658
        have c_660 : M655.2.1 77 6 = (M.2.1 77 6) := (W_n W654 (by decide) (W_n W647 (fun z => absurd z.1 (by decide)) (W_n W642 (by decide) rfl)))
        have t_661 : (M655.2.1 77 6).toInt = (M.2.1 77 6).toInt := congrArg Int32.toInt c_660
        refine C_156 hX (dp1 hd (by decide)) hG656 (by omega)  (fun M667 hG663 F662 p_664 p_665 p_666 => ?_)
        have F668 := FR.c F657 F662 tg_389
        have b_669 := g_b hG663 (a := 77) (i := 7) (lo := 0) (hi := 500) rfl rfl
        have c_670 : M667.2.1 77 6 = (M.2.1 77 6) := (F_n F662 (show ¬ (77 = 77 ∧ 7 ≤ 6 ∧ 6 ≤ 10) by decide) c_660)
        have t_671 : (M667.2.1 77 6).toInt = (M.2.1 77 6).toInt := congrArg Int32.toInt c_670
        have b_672 := g_b hG663 (a := 77) (i := 8) (lo := 0) (hi := 5) rfl rfl
        refine to_c (pc := 58) rw_225_58 (x := (1 : Int32)) rfl rfl (s_r1 (pc := 59) rw_225_59 (A := 1) rfl (by decide) ?_)
        have k_673 : (1 : Int32).toInt = 1 := rfl
        have c_674 : M667.2.1 77 59 = (M.2.1 77 59) := (F_n F662 (show ¬ (77 = 77 ∧ 7 ≤ 59 ∧ 59 ≤ 10) by decide) (W_n W654 (by decide) (W_n W647 (fun z => absurd z.1 (by decide)) (W_n W642 (by decide) rfl))))
        have t_675 : (M667.2.1 77 59).toInt = (M.2.1 77 59).toInt := congrArg Int32.toInt c_674
        have c_676 : M667.2.1 77 65 = v652 := (F_n F662 (show ¬ (77 = 77 ∧ 7 ≤ 65 ∧ 65 ≤ 10) by decide) (W_e W654))
        have t_677 : (M667.2.1 77 65).toInt = v652.toInt := congrArg Int32.toInt c_676
        have c_678 : M667.2.1 77 66 = (M.2.1 77 66) := (F_n F662 (show ¬ (77 = 77 ∧ 7 ≤ 66 ∧ 66 ≤ 10) by decide) (W_n W654 (by decide) (W_n W647 (fun z => absurd z.1 (by decide)) (W_n W642 (by decide) rfl))))
        have t_679 : (M667.2.1 77 66).toInt = (M.2.1 77 66).toInt := congrArg Int32.toInt c_678
        have c_680 : M667.2.1 77 67 = v640 := (F_n F662 (show ¬ (77 = 77 ∧ 7 ≤ 67 ∧ 67 ≤ 10) by decide) (W_n W654 (by decide) (W_n W647 (fun z => absurd z.1 (by decide)) (W_e W642))))
        have t_681 : (M667.2.1 77 67).toInt = v640.toInt := congrArg Int32.toInt c_680
        have c_682 : M667.2.1 77 68 = (M.2.1 77 68) := (F_n F662 (show ¬ (77 = 77 ∧ 7 ≤ 68 ∧ 68 ≤ 10) by decide) (W_n W654 (by decide) (W_n W647 (fun z => absurd z.1 (by decide)) (W_n W642 (by decide) rfl))))
        have t_683 : (M667.2.1 77 68).toInt = (M.2.1 77 68).toInt := congrArg Int32.toInt c_682
        have c_684 : M667.2.1 77 69 = (M.2.1 77 69) := (F_n F662 (show ¬ (77 = 77 ∧ 7 ≤ 69 ∧ 69 ≤ 10) by decide) (W_n W654 (by decide) (W_n W647 (fun z => absurd z.1 (by decide)) (W_n W642 (by decide) rfl))))
        have t_685 : (M667.2.1 77 69).toInt = (M.2.1 77 69).toInt := congrArg Int32.toInt c_684
        have k_687 : (0 : Int32).toInt = 0 := rfl
        have s_688 := Wx_f (M := M) (M1 := M667) ((M.2.1 77 65).toInt).toNat (fun i z => (F_n F662 (show ¬ (115 = 77 ∧ 7 ≤ i ∧ i ≤ 10) by omega) (W_n W654 (by omega) (W_n W647 (by omega) (W_n W642 (by omega) rfl)))))
        have s_689 : (M667.2.1 115 ((M.2.1 77 65).toInt).toNat).toInt = (0 : Int32).toInt := by rw [show ((M.2.1 77 65).toInt).toNat = ((M.2.1 77 65).toInt).toNat by omega]; exact congrArg Int32.toInt (F_n F662 (show ¬ (115 = 77 ∧ 7 ≤ (((M.2.1 77 65).toInt).toNat) ∧ (((M.2.1 77 65).toInt).toNat) ≤ 10) by omega) (W_n W654 (by omega) (W_e W647)))
        have s_690 := Wx_s M667 ((M.2.1 77 65).toInt).toNat
        have j_686 : QK M667 := QK_i (by unfold QK_c; rw [show ((M667.2.1 77 65).toInt).toNat = ((M.2.1 77 65).toInt).toNat + 1 by omega]; refine ⟨by omega, by omega, by omega, by omega⟩) (fun i z => by
            by_cases ei : i = ((M.2.1 77 65).toInt).toNat
            · rw [ei]; omega
            · rw [(F_n F662 (show ¬ (115 = 77 ∧ 7 ≤ i ∧ i ≤ 10) by omega) (W_n W654 (by omega) (W_n W647 (by omega) (W_n W642 (by omega) rfl))))]; exact q2.2.1 i (by omega)) (by rw [(F_n F662 (show ¬ (77 = 77 ∧ 7 ≤ 59 ∧ 59 ≤ 10) by decide) (W_n W654 (by omega) (W_n W647 (by omega) (W_n W642 (by omega) rfl))))]; exact KN_f (fun a i z => (F_n F662 (show ¬ (a = 77 ∧ 7 ≤ i ∧ i ≤ 10) by omega) (W_n W654 (by /-r77,65-/ omega) (W_n W647 (by /-r115-/ omega) (W_n W642 (by /-r77,67-/ omega) rfl))))) q2.2.2)
        have c_691 : M667.2.1 77 4 = (M.2.1 77 4) := (F_n F662 (show ¬ (77 = 77 ∧ 7 ≤ 4 ∧ 4 ≤ 10) by decide) (W_n W654 (by decide) (W_n W647 (fun z => absurd z.1 (by decide)) (W_n W642 (by decide) rfl))))
        have t_692 : (M667.2.1 77 4).toInt = (M.2.1 77 4).toInt := congrArg Int32.toInt c_691
        have c_693 : M667.2.1 77 5 = (M.2.1 77 5) := (F_n F662 (show ¬ (77 = 77 ∧ 7 ≤ 5 ∧ 5 ≤ 10) by decide) (W_n W654 (by decide) (W_n W647 (fun z => absurd z.1 (by decide)) (W_n W642 (by decide) rfl))))
        have t_694 : (M667.2.1 77 5).toInt = (M.2.1 77 5).toInt := congrArg Int32.toInt c_693
        exact h (1 : Int32) M667 hG663 F668 (by decide) (by decide) (by omega) (by omega) (by omega) (by omega) (fun _ => j_686) (by omega)
      · refine to_an (pc := 18) rw_225_18 rfl (to_c (pc := 19) rw_225_19 (x := (2 : Int32)) rfl rfl (s_v (pc := 20) rw_225_20 (dp0 hd (by decide)) (ls0 := [.ref 77, .int (2 : Int32)]) rfl (Nat.le_of_ble_eq_true rfl) (Nat.le_of_ble_eq_true rfl) rfl (to_rc rfl rfl rfl (g_o hG rfl)) rfl (to_an (pc := 0) rw_152_0 rfl (to_in (pc := 1) rw_152_1 rfl (s_pI (pc := 2) rw_152_2 hG rfl (fun M696 W695 => ?_))))))
        have hG697 := g_wf hG W695 rfl rfl (by decide)
        have F698 := FR.w F0 W695 (show 77 = 77 ∧ (4 = 4 ∨ 4 = 5 ∨ 7 ≤ 4 ∧ 4 ≤ 10) ∨ 77 = 77 ∧ (4 = 59 ∨ 65 ≤ 4 ∧ 4 ≤ 69) ∨ 112 ≤ 77 ∧ 77 ≤ 114 ∧ 40 ≤ 4 ∨ 77 = 115 ∨ 77 = 116 by decide)
        refine to_an (pc := 5) rw_152_5 rfl (to_an (pc := 6) rw_152_6 rfl ?_)
        have c_699 : M696.2.1 77 10 = (M.2.1 77 10) := (W_n W695 (by decide) rfl)
        have b_700 := g_b hG (a := 77) (i := 10) (lo := 0) (hi := 500) rfl rfl
        refine tt_gI (pc := 7) rw_152_7 (g_o hG697 rfl) (v := (M.2.1 77 10)) c_699 (s_pI (pc := 10) rw_152_10 hG697 rfl (fun M702 W701 => ?_))
        have hG703 := g_wf hG697 W701 rfl rfl (by decide)
        have F704 := FR.w F698 W701 (show 77 = 77 ∧ (5 = 4 ∨ 5 = 5 ∨ 7 ≤ 5 ∧ 5 ≤ 10) ∨ 77 = 77 ∧ (5 = 59 ∨ 65 ≤ 5 ∧ 5 ≤ 69) ∨ 112 ≤ 77 ∧ 77 ≤ 114 ∧ 40 ≤ 5 ∨ 77 = 115 ∨ 77 = 116 by decide)
        refine to_c (pc := 13) rw_152_13 (x := (0 : Int32)) rfl rfl (s_r1 (pc := 14) rw_152_14 (A := 0) rfl (by decide) (s_r1 (pc := 23) rw_225_23 (A := 0) rfl (by decide) ?_))
        have k_705 : (0 : Int32).toInt = 0 := rfl
        have c_706 : M702.2.1 77 7 = (M.2.1 77 7) := (W_n W701 (by decide) (W_n W695 (by decide) rfl))
        have t_707 : (M702.2.1 77 7).toInt = (M.2.1 77 7).toInt := congrArg Int32.toInt c_706
        have c_708 : M702.2.1 77 6 = (M.2.1 77 6) := (W_n W701 (by decide) (W_n W695 (by decide) rfl))
        have t_709 : (M702.2.1 77 6).toInt = (M.2.1 77 6).toInt := congrArg Int32.toInt c_708
        have c_710 : M702.2.1 77 8 = (M.2.1 77 8) := (W_n W701 (by decide) (W_n W695 (by decide) rfl))
        have t_711 : (M702.2.1 77 8).toInt = (M.2.1 77 8).toInt := congrArg Int32.toInt c_710
        have c_712 : M702.2.1 77 4 = (2 : Int32) := (W_n W701 (by decide) (W_e W695))
        have k_713 : (2 : Int32).toInt = 2 := rfl
        have t_714 : (M702.2.1 77 4).toInt = (2 : Int32).toInt := congrArg Int32.toInt c_712
        have c_715 : M702.2.1 77 5 = (M.2.1 77 10) := (W_e W701)
        have t_716 : (M702.2.1 77 5).toInt = (M.2.1 77 10).toInt := congrArg Int32.toInt c_715
        exact h (0 : Int32) M702 hG703 F704 (by decide) (by decide) (by omega) (by omega) (by omega) (by omega) (fun z => absurd z (by omega)) (by omega)
