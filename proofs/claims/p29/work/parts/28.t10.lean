theorem tg_204 : ∀ a i : Nat, (a = 77 ∧ 7 ≤ i ∧ i ≤ 10) → (a = 77 ∧ (i = 4 ∨ i = 5 ∨ 7 ≤ i ∧ i ≤ 10) ∨ a = 77 ∧ (i = 44 ∨ i = 52) ∨ 101 ≤ a ∧ a ≤ 108) := fun a i z => by omega
theorem tg_205 : ∀ a i : Nat, (a = 77 ∧ (i = 4 ∨ i = 5 ∨ 7 ≤ i ∧ i ≤ 10) ∨ 102 ≤ a ∧ a ≤ 104 ∨ a = 106 ∨ a = 107) → (a = 77 ∧ (i = 4 ∨ i = 5 ∨ 7 ≤ i ∧ i ≤ 10) ∨ a = 77 ∧ (i = 44 ∨ i = 52) ∨ 101 ≤ a ∧ a ≤ 108) := fun a i z => by omega
theorem tg_206 : ∀ a i : Nat, (a = 77 ∧ 6 ≤ i ∧ i ≤ 10) → ¬ (a = 77 ∧ i = 44) := fun a i z => by omega
theorem tg_207 : ∀ a i j : Nat, (a = 77 ∧ 6 ≤ i ∧ i ≤ 10) → ¬ (a = 101 ∧ i = j) := fun a i j z => by omega
theorem tg_208 : ∀ a i : Nat, a = 78 → ¬ (a = 77 ∧ i = 44) := fun a i z => by omega
theorem tg_209 : ∀ a i j : Nat, a = 78 → ¬ (a = 101 ∧ i = j) := fun a i j z => by omega
theorem tg_210 : ∀ a i : Nat, a = 79 → ¬ (a = 77 ∧ i = 44) := fun a i z => by omega
theorem tg_211 : ∀ a i j : Nat, a = 79 → ¬ (a = 101 ∧ i = j) := fun a i j z => by omega
theorem tg_212 : ∀ a i : Nat, (a = 77 ∧ 11 ≤ i ∧ i ≤ 13 ∨ 80 ≤ a ∧ a ≤ 84 ∧ i < 8 ∨ 85 ≤ a ∧ a ≤ 86 ∧ i < 12) → ¬ (a = 77 ∧ i = 44) := fun a i z => by omega
theorem tg_213 : ∀ a i j : Nat, (a = 77 ∧ 11 ≤ i ∧ i ≤ 13 ∨ 80 ≤ a ∧ a ≤ 84 ∧ i < 8 ∨ 85 ≤ a ∧ a ≤ 86 ∧ i < 12) → ¬ (a = 101 ∧ i = j) := fun a i j z => by omega
theorem tg_214 : ∀ a i : Nat, (a = 77 ∧ 6 ≤ i ∧ i ≤ 10) → ¬ (a = 77 ∧ i = 52) := fun a i z => by omega
theorem tg_215 : ∀ a i j : Nat, (a = 77 ∧ 6 ≤ i ∧ i ≤ 10) → ¬ (a = 108 ∧ i = j) := fun a i j z => by omega
theorem tg_216 : ∀ a i : Nat, a = 78 → ¬ (a = 77 ∧ i = 52) := fun a i z => by omega
theorem tg_217 : ∀ a i j : Nat, a = 78 → ¬ (a = 108 ∧ i = j) := fun a i j z => by omega
theorem tg_218 : ∀ a i : Nat, a = 79 → ¬ (a = 77 ∧ i = 52) := fun a i z => by omega
theorem tg_219 : ∀ a i j : Nat, a = 79 → ¬ (a = 108 ∧ i = j) := fun a i j z => by omega
theorem tg_220 : ∀ a i j : Nat, (a = 77 ∧ 6 ≤ i ∧ i ≤ 10) → ¬ (a = 105 ∧ i = j) := fun a i j z => by omega
theorem tg_221 : ∀ a i j : Nat, a = 78 → ¬ (a = 105 ∧ i = j) := fun a i j z => by omega
theorem tg_222 : ∀ a i j : Nat, a = 79 → ¬ (a = 105 ∧ i = j) := fun a i j z => by omega
set_option maxRecDepth 4000 in
set_option maxHeartbeats 0 in
theorem E_215 {X : mm_X} {d : Nat} {M : mm_M} {Q : Option Value → mm_M → Prop} {t : Nat → Int} {nn : Int} {a : Int} {sg : x_S} {C9 : Nat → Int64} {n9 : Int} {op : List Int} {A9 : x_A} (hX : g_X X) (hd : 4 ≤ d) (hG : g_G M) (q1 : RS M t nn) (q2 : (M.2.1 77 10).toInt = a) (q3 : 0 ≤ nn) (q4 : nn ≤ 500) (q5 : TR M t nn) (q6 : W9 M) (q7 : PLk M sg) (q8 : (M.2.1 77 44).toInt = n9) (q9 : 0 ≤ n9) (q10 : ¬ (x_kind t nn a = 0 ∧ (M.2.1 77 52).toInt = 0)) (q11 : WKr (x_DD t nn sg C9, C9, sg.2.2.1) M A9 n9 op) (q12 : OPR (orow M) op) (q13 : (op.length : Int) = (M.2.1 77 52).toInt) (q14 : ∀ m ∈ op, 0 ≤ m ∧ m < n9) (h : ∀ (r : Int32) (M1 : mm_M), g_G M1 → FR md_ac M M1 → (0 ≤ r.toInt) → (r.toInt ≤ 1) → ((r.toInt = 1 → RS M1 t nn)) → ((r.toInt = 1 → WS (x_DD t nn sg C9, C9, sg.2.2.1) t nn sg (x_ww t nn sg 0 n9 op A9 a) M1)) → ((r.toInt = 0 → x_ww t nn sg 0 n9 op A9 a = Sum.inl ((M1.2.1 77 4).toInt, (M1.2.1 77 5).toInt))) → Q (some (.int r)) M1) : mm_T X d 214 0 [.ref 77, .null] [] M Q := by
  have F0 : FR md_ac M M := FR.rf
  have b_1 := g_b hG (a := 77) (i := 10) (lo := 0) (hi := 500) rfl rfl
  have b_2 := g_b hG (a := 77) (i := 44) (lo := 0) (hi := 40) rfl rfl
  have b_3 := g_b hG (a := 77) (i := 52) (lo := 0) (hi := 5) rfl rfl
  have b_4 := g_b hG (a := 77) (i := 8) (lo := 0) (hi := 5) rfl rfl
  have z_5 := RS_k q1 (a := a) (by omega)
  have b_6 := g_b hG (a := 77) (i := 6) (lo := 0) (hi := 500) rfl rfl
  have b_7 := g_b hG (a := 77) (i := 7) (lo := 0) (hi := 500) rfl rfl
  have z_8 := RS_b q1 (a := a) (by omega)
  have z_9 := q13
  refine to_an (pc := 0) rw_215_0 rfl ?_
  refine to_c (pc := 1) rw_215_1 (x := (41 : Int32)) rfl rfl ?_
  refine s_v (pc := 3) rw_215_3 (dp0 hd (by decide)) (ls0 := [.ref 77, .int (41 : Int32)]) rfl (Nat.le_of_ble_eq_true rfl) (Nat.le_of_ble_eq_true rfl) rfl (to_rc rfl rfl rfl (g_o hG rfl)) rfl ?_
  refine to_an (pc := 0) rw_159_0 rfl ?_
  refine tt_gI (pc := 1) rw_159_1 (g_o hG rfl) (v := (M.2.1 77 8)) rfl ?_
  refine to_c (pc := 4) rw_159_4 (x := (4 : Int32)) rfl rfl ?_
  refine b_cne (pc := 5) rw_159_5 (A := (M.2.1 77 8).toInt) (B := 4) rfl rfl (fun h10 => ?_) (fun h10 => ?_)
  · refine to_c (pc := 20) rw_159_20 (x := (0 : Int32)) rfl rfl ?_
    refine s_r1 (pc := 21) rw_159_21 (A := 0) rfl (by decide) ?_
    refine b_ieq_t (pc := 6) rw_215_6 (A := 0) rfl (by decide) ?_
    refine to_an (pc := 50) rw_215_50 rfl ?_
    refine tt_gI (pc := 51) rw_215_51 (g_o hG rfl) (v := (M.2.1 77 8)) rfl ?_
    refine to_c (pc := 54) rw_215_54 (x := (1 : Int32)) rfl rfl ?_
    refine b_cne (pc := 55) rw_215_55 (A := (M.2.1 77 8).toInt) (B := 1) rfl rfl (fun h11 => ?_) (fun h11 => ?_)
    · refine to_an (pc := 85) rw_215_85 rfl ?_
      refine to_c (pc := 86) rw_215_86 (x := (1 : Int32)) rfl rfl ?_
      refine s_v (pc := 87) rw_215_87 (dp0 hd (by decide)) (ls0 := [.ref 77, .int (1 : Int32)]) rfl (Nat.le_of_ble_eq_true rfl) (Nat.le_of_ble_eq_true rfl) rfl (to_rc rfl rfl rfl (g_o hG rfl)) rfl ?_
      refine to_an (pc := 0) rw_152_0 rfl ?_
      refine to_in (pc := 1) rw_152_1 rfl ?_
      refine s_pI (pc := 2) rw_152_2 hG rfl (fun M13 W12 => ?_)
      have hG14 := g_wf hG W12 rfl rfl (by decide)
      have F15 := FR.w F0 W12 (show 77 = 77 ∧ (4 = 4 ∨ 4 = 5 ∨ 7 ≤ 4 ∧ 4 ≤ 10) ∨ 77 = 77 ∧ (4 = 44 ∨ 4 = 52) ∨ 101 ≤ 77 ∧ 77 ≤ 108 by decide)
      refine to_an (pc := 5) rw_152_5 rfl ?_
      refine to_an (pc := 6) rw_152_6 rfl ?_
      have c_16 : M13.2.1 77 10 = (M.2.1 77 10) := (W_n W12 (by decide) rfl)
      refine tt_gI (pc := 7) rw_152_7 (g_o hG14 rfl) (v := (M.2.1 77 10)) c_16 ?_
      refine s_pI (pc := 10) rw_152_10 hG14 rfl (fun M18 W17 => ?_)
      have hG19 := g_wf hG14 W17 rfl rfl (by decide)
      have F20 := FR.w F15 W17 (show 77 = 77 ∧ (5 = 4 ∨ 5 = 5 ∨ 7 ≤ 5 ∧ 5 ≤ 10) ∨ 77 = 77 ∧ (5 = 44 ∨ 5 = 52) ∨ 101 ≤ 77 ∧ 77 ≤ 108 by decide)
      refine to_c (pc := 13) rw_152_13 (x := (0 : Int32)) rfl rfl ?_
      refine s_r1 (pc := 14) rw_152_14 (A := 0) rfl (by decide) ?_
      refine s_r1 (pc := 90) rw_215_90 (A := 0) rfl (by decide) ?_
      have k_21 : (0 : Int32).toInt = 0 := rfl
      have c_22 : M18.2.1 77 4 = (1 : Int32) := (W_n W17 (by decide) (W_e W12))
      have k_23 : (1 : Int32).toInt = 1 := rfl
      have t_24 : (M18.2.1 77 4).toInt = (1 : Int32).toInt := congrArg Int32.toInt c_22
      have c_25 : M18.2.1 77 5 = (M.2.1 77 10) := (W_e W17)
      have t_26 : (M18.2.1 77 5).toInt = (M.2.1 77 10).toInt := congrArg Int32.toInt c_25
      exact h (0 : Int32) M18 hG19 F20 (by decide) (by decide) (fun z => by exfalso; omega) (fun z => by exfalso; omega) (fun _ => winl (by omega) (by omega) (w_nx (by omega) (by omega) (by omega) (by omega) (by omega)))
    · refine to_an (pc := 58) rw_215_58 rfl ?_
      refine tt_gI (pc := 59) rw_215_59 (g_o hG rfl) (v := (M.2.1 77 9)) rfl ?_
      refine to_c (pc := 62) rw_215_62 (x := (7 : Int32)) rfl rfl ?_
      refine b_ceq (pc := 64) rw_215_64 (A := (M.2.1 77 9).toInt) (B := 7) rfl rfl (fun h27 => ?_) (fun h27 => ?_)
      · have z_28 := RS_1 q1 (a := a) (by omega) (by omega)
        refine to_an (pc := 91) rw_215_91 rfl ?_
        refine tt_gI (pc := 92) rw_215_92 (g_o hG rfl) (v := (M.2.1 77 44)) rfl ?_
        refine to_c (pc := 95) rw_215_95 (x := (40 : Int32)) rfl rfl ?_
        refine b_cne (pc := 97) rw_215_97 (A := (M.2.1 77 44).toInt) (B := 40) rfl rfl (fun h29 => ?_) (fun h29 => ?_)
        · refine to_an (pc := 106) rw_215_106 rfl ?_
          refine tt_gI (pc := 107) rw_215_107 (g_o hG rfl) (v := (M.2.1 77 44)) rfl ?_
          refine to_isn (pc := 110) rw_215_110 (ls2 := [.ref 77, .int (M.2.1 77 44)]) rfl rfl ?_
          refine to_an (pc := 111) rw_215_111 rfl ?_
          refine s_gR (pc := 112) rw_215_112 hG rfl (v := 101) rfl ?_
          refine to_in (pc := 115) rw_215_115 rfl ?_
          refine to_an (pc := 116) rw_215_116 rfl ?_
          refine tt_gI (pc := 117) rw_215_117 (g_o hG rfl) (v := (M.2.1 77 9)) rfl ?_
          refine to_c (pc := 120) rw_215_120 (x := (7 : Int32)) rfl rfl ?_
          refine b_cne_f (pc := 122) rw_215_122 (A := (M.2.1 77 9).toInt) (B := 7) rfl rfl (by omega) ?_
          refine to_c (pc := 125) rw_215_125 (x := (0 : Int32)) rfl rfl ?_
          refine to_go (pc := 126) rw_215_126 ?_
          refine s_ias (pc := 143) rw_215_143 hG rfl (n := 40) rfl (A := (M.2.1 77 44).toInt) rfl (by omega) (by omega) (fun M31 W30 => ?_)
          have hG32 := g_w hG W30 (A := 0) rfl (lo := 0) (hi := 2) rfl rfl (by omega) (by decide)
          have F33 := FR.w F0 W30 (show 101 = 77 ∧ (((M.2.1 77 44).toInt).toNat = 4 ∨ ((M.2.1 77 44).toInt).toNat = 5 ∨ 7 ≤ ((M.2.1 77 44).toInt).toNat ∧ ((M.2.1 77 44).toInt).toNat ≤ 10) ∨ 101 = 77 ∧ (((M.2.1 77 44).toInt).toNat = 44 ∨ ((M.2.1 77 44).toInt).toNat = 52) ∨ 101 ≤ 101 ∧ 101 ≤ 108 by omega)
          refine to_an (pc := 144) rw_215_144 rfl ?_
          refine to_dupr (pc := 145) rw_215_145 ?_
          have c_34 : M31.2.1 77 44 = (M.2.1 77 44) := (W_n W30 (fun z => absurd z.1 (by decide)) rfl)
          refine tt_gI (pc := 146) rw_215_146 (g_o hG32 rfl) (v := (M.2.1 77 44)) c_34 ?_
          refine to_c (pc := 149) rw_215_149 (x := (1 : Int32)) rfl rfl ?_
          refine s_add (pc := 150) rw_215_150 (A := (M.2.1 77 44).toInt) (B := 1) rfl rfl (by omega) (fun v35 e36 => ?_)
          refine s_pI (pc := 151) rw_215_151 hG32 rfl (fun M38 W37 => ?_)
          have hG39 := g_w hG32 W37 (A := v35.toInt) rfl (lo := 0) (hi := 40) rfl rfl (by omega) (by decide)
          have F40 := FR.w F33 W37 (show 77 = 77 ∧ (44 = 4 ∨ 44 = 5 ∨ 7 ≤ 44 ∧ 44 ≤ 10) ∨ 77 = 77 ∧ (44 = 44 ∨ 44 = 52) ∨ 101 ≤ 77 ∧ 77 ≤ 108 by decide)
          refine to_an (pc := 154) rw_215_154 rfl ?_
          refine s_v (pc := 155) rw_215_155 (dp0 hd (by decide)) (ls0 := [.ref 77]) rfl (Nat.le_of_ble_eq_true rfl) (Nat.le_of_ble_eq_true rfl) rfl (to_rc rfl rfl rfl (g_o hG39 rfl)) rfl ?_
          have c_41 : M38.2.1 77 7 = (M.2.1 77 7) := (W_n W37 (by decide) (W_n W30 (fun z => absurd z.1 (by decide)) rfl))
          have t_42 : (M38.2.1 77 7).toInt = (M.2.1 77 7).toInt := congrArg Int32.toInt c_41
          have c_43 : M38.2.1 77 6 = (M.2.1 77 6) := (W_n W37 (by decide) (W_n W30 (fun z => absurd z.1 (by decide)) rfl))
          have t_44 : (M38.2.1 77 6).toInt = (M.2.1 77 6).toInt := congrArg Int32.toInt c_43
          have c_45 : M38.2.1 77 10 = (M.2.1 77 10) := (W_n W37 (by decide) (W_n W30 (fun z => absurd z.1 (by decide)) rfl))
          have t_46 : (M38.2.1 77 10).toInt = (M.2.1 77 10).toInt := congrArg Int32.toInt c_45
          have j_47 := (RS_f (fun a i z => W_n W37 (tg_206 a i z) rfl) (RS_f (fun a i z => W_n W30 (tg_207 a i _ z) rfl) q1))
          have z_48 := RS_b j_47 (a := a) (by omega)
          have j_49 := (TR_f (fun a i z => W_n W37 (tg_208 a i z) rfl) (TR_f (fun a i z => W_n W30 (tg_209 a i _ z) rfl) q5))
          have j_50 := (W9_f (fun a i z => W_n W37 (tg_210 a i z) rfl) (W9_f (fun a i z => W_n W30 (tg_211 a i _ z) rfl) q6))
          refine E_156 hX (dp1 hd (by decide)) hG39 (by omega) (by omega) (by omega) (by omega) j_49 j_50  (fun M57 hG52 F51 p_53 p_54 p_55 p_56 => ?_)
          have F58 := FR.c F40 F51 tg_204
          have b_59 := g_b hG52 (a := 77) (i := 7) (lo := 0) (hi := 500) rfl rfl
          have c_60 : M57.2.1 77 6 = (M.2.1 77 6) := (F_n F51 (show ¬ (77 = 77 ∧ 7 ≤ 6 ∧ 6 ≤ 10) by decide) c_43)
          have t_61 : (M57.2.1 77 6).toInt = (M.2.1 77 6).toInt := congrArg Int32.toInt c_60
          have b_62 := g_b hG52 (a := 77) (i := 8) (lo := 0) (hi := 5) rfl rfl
          have b_63 := g_b hG52 (a := 77) (i := 10) (lo := 0) (hi := 500) rfl rfl
          have z_64 := RS_s p_56.2 (a := a) (by omega)
          refine to_an (pc := 158) rw_215_158 rfl ?_
          refine s_gR (pc := 159) rw_215_159 hG52 rfl (v := 101) rfl ?_
          refine to_in (pc := 162) rw_215_162 rfl ?_
          refine s_ialk (pc := 163) rw_215_163 hG52 rfl (n := 40) rfl rfl (A := (M.2.1 77 44).toInt) rfl (by omega) (by omega) (v := (0 : Int32)) (F_n F51 (show ¬ (101 = 77 ∧ 7 ≤ ((M.2.1 77 44).toInt).toNat ∧ ((M.2.1 77 44).toInt).toNat ≤ 10) by omega) (W_n W37 (by omega) (W_e W30))) ?_
          refine b_ine_f (pc := 164) rw_215_164 (A := 0) rfl (by decide) ?_
          refine to_an (pc := 167) rw_215_167 rfl ?_
          refine to_in (pc := 168) rw_215_168 rfl ?_
          refine s_v (pc := 169) rw_215_169 (dp0 hd (by decide)) (ls0 := [.ref 77, .int (M.2.1 77 44)]) rfl (Nat.le_of_ble_eq_true rfl) (Nat.le_of_ble_eq_true rfl) rfl (to_rc rfl rfl rfl (g_o hG52 rfl)) rfl ?_
          have j_67 := (TR_f (tg_42 F51) j_49)
          have j_68 := (W9_f (tg_44 F51) j_50)
          have j_69 := (PLk_f (tg_174 F51) (PLk_f (fun a i z => W_n W37 (tg_212 a i z) rfl) (PLk_f (fun a i z => W_n W30 (tg_213 a i _ z) rfl) q7)))
          refine E_213 hX (dp1 hd (by decide)) hG52 (by omega) (by omega) p_56.1 (by omega) (by omega) (by omega) j_67 j_68 j_69 (e := (M.2.1 77 44)) (t := t) (nn := nn) (a := (x_ns t nn a)) (sg := sg) (C9 := C9) (n9 := (n9 + 1)) (op := op) (A9 := (x_k1 A9 n9 0 a)) (fun r70 M82 hG72 F71 p_73 p_74 p_75 p_76 p_77 p_78 p_79 p_80 p_81 => ?_)
          have F83 := FR.c F58 F71 tg_205
          rcases (show r70.toInt = 0 ∨ r70.toInt = 1 by omega) with h84 | h84
          · skip
            have p_85 := p_81 (by omega)
            clear p_75 p_79 p_80 p_81
            have z_86 := (w_ps (by omega) (by omega) (by omega) (by omega) (by omega)).trans p_85
            refine s_r1 (pc := 172) rw_215_172 (A := r70.toInt) rfl (by omega) ?_
            exact h r70 M82 hG72 F83 (by omega) (by omega) (fun z => by exfalso; omega) (fun z => by exfalso; omega) (fun _ => winl (by omega) (by omega) z_86)
          · skip
            have p_87 := p_75 (by omega)
            have p_88 := p_79 (by omega)
            have p_89 := p_80 (by omega)
            clear p_75 p_79 p_80 p_81
            have z_90 := (w_ps (by omega) (by omega) (by omega) (by omega) (by omega)).trans p_89
            refine s_r1 (pc := 172) rw_215_172 (A := r70.toInt) rfl (by omega) ?_
            have b_91 := g_b hG72 (a := 77) (i := 10) (lo := 0) (hi := 500) rfl rfl
            have c_92 : M82.2.1 77 44 = v35 := (F_n F71 (show ¬ (77 = 77 ∧ (44 = 4 ∨ 44 = 5 ∨ 7 ≤ 44 ∧ 44 ≤ 10) ∨ 102 ≤ 77 ∧ 77 ≤ 104 ∨ 77 = 106 ∨ 77 = 107) by decide) (F_n F51 (show ¬ (77 = 77 ∧ 7 ≤ 44 ∧ 44 ≤ 10) by decide) (W_e W37)))
            have t_93 : (M82.2.1 77 44).toInt = v35.toInt := congrArg Int32.toInt c_92
            have c_94 : M82.2.1 77 52 = (M.2.1 77 52) := (F_n F71 (show ¬ (77 = 77 ∧ (52 = 4 ∨ 52 = 5 ∨ 7 ≤ 52 ∧ 52 ≤ 10) ∨ 102 ≤ 77 ∧ 77 ≤ 104 ∨ 77 = 106 ∨ 77 = 107) by decide) (F_n F51 (show ¬ (77 = 77 ∧ 7 ≤ 52 ∧ 52 ≤ 10) by decide) (W_n W37 (by decide) (W_n W30 (fun z => absurd z.1 (by decide)) rfl))))
            have t_95 : (M82.2.1 77 52).toInt = (M.2.1 77 52).toInt := congrArg Int32.toInt c_94
            have k_96 : (0 : Int32).toInt = 0 := rfl
            exact h r70 M82 hG72 F83 (by omega) (by omega) (fun _ => p_87) (fun _ => WS_p (k := 0) (by decide) (by omega) q11 q12 q13 q14 (fun r i z z2 => by
                by_cases e : r = 101
                · subst e; exact (F_n F71 (show ¬ (101 = 77 ∧ (i = 4 ∨ i = 5 ∨ 7 ≤ i ∧ i ≤ 10) ∨ 102 ≤ 101 ∧ 101 ≤ 104 ∨ 101 = 106 ∨ 101 = 107) by omega) (F_n F51 (show ¬ (101 = 77 ∧ 7 ≤ i ∧ i ≤ 10) by omega) (W_n W37 (by omega) (W_n W30 (by omega) rfl))))
                · by_cases e7 : r = 107
                  · subst e7; exact (p_77 i (by omega)).trans (F_n F51 (show ¬ (107 = 77 ∧ 7 ≤ i ∧ i ≤ 10) by omega) (W_n W37 (by omega) (W_n W30 (by omega) rfl)))
                  · exact (p_76 r i (by omega) (by omega)).trans (F_n F51 (show ¬ (r = 77 ∧ 7 ≤ i ∧ i ≤ 10) by omega) (W_n W37 (by omega) (W_n W30 (by omega) rfl)))) (fun i z2 => (p_78 i (by omega)).trans (F_nl F51 (show ¬ (106 = 77 ∧ 7 ≤ i ∧ i ≤ 10) by omega) (W_j W37 (W_j W30 rfl)))) (PR_0 (by omega) (by rw [show n9.toNat = ((M.2.1 77 44).toInt).toNat by omega]; exact p_88)) (by rw [show n9.toNat = ((M.2.1 77 44).toInt).toNat by omega, show M82.2.1 101 ((M.2.1 77 44).toInt).toNat = (0 : Int32) from (F_n F71 (show ¬ (101 = 77 ∧ (((M.2.1 77 44).toInt).toNat = 4 ∨ ((M.2.1 77 44).toInt).toNat = 5 ∨ 7 ≤ ((M.2.1 77 44).toInt).toNat ∧ ((M.2.1 77 44).toInt).toNat ≤ 10) ∨ 102 ≤ 101 ∧ 101 ≤ 104 ∨ 101 = 106 ∨ 101 = 107) by omega) (F_n F51 (show ¬ (101 = 77 ∧ 7 ≤ ((M.2.1 77 44).toInt).toNat ∧ ((M.2.1 77 44).toInt).toNat ≤ 10) by omega) (W_n W37 (by omega) (W_e W30))))]; exact (show (0 : Int32).toInt = 0 by omega)) (fun r i z => (F_n F71 (show ¬ (r = 77 ∧ (i = 4 ∨ i = 5 ∨ 7 ≤ i ∧ i ≤ 10) ∨ 102 ≤ r ∧ r ≤ 104 ∨ r = 106 ∨ r = 107) by omega) (F_n F51 (show ¬ (r = 77 ∧ 7 ≤ i ∧ i ≤ 10) by omega) (W_n W37 (by omega) (W_n W30 (by omega) rfl))))) (by omega) (by omega) z_90) (fun z => by exfalso; omega)
        · refine to_an (pc := 100) rw_215_100 rfl ?_
          refine to_c (pc := 101) rw_215_101 (x := (2 : Int32)) rfl rfl ?_
          refine s_v (pc := 102) rw_215_102 (dp0 hd (by decide)) (ls0 := [.ref 77, .int (2 : Int32)]) rfl (Nat.le_of_ble_eq_true rfl) (Nat.le_of_ble_eq_true rfl) rfl (to_rc rfl rfl rfl (g_o hG rfl)) rfl ?_
          refine to_an (pc := 0) rw_152_0 rfl ?_
          refine to_in (pc := 1) rw_152_1 rfl ?_
          refine s_pI (pc := 2) rw_152_2 hG rfl (fun M98 W97 => ?_)
          have hG99 := g_wf hG W97 rfl rfl (by decide)
          have F100 := FR.w F0 W97 (show 77 = 77 ∧ (4 = 4 ∨ 4 = 5 ∨ 7 ≤ 4 ∧ 4 ≤ 10) ∨ 77 = 77 ∧ (4 = 44 ∨ 4 = 52) ∨ 101 ≤ 77 ∧ 77 ≤ 108 by decide)
          refine to_an (pc := 5) rw_152_5 rfl ?_
          refine to_an (pc := 6) rw_152_6 rfl ?_
          have c_101 : M98.2.1 77 10 = (M.2.1 77 10) := (W_n W97 (by decide) rfl)
          refine tt_gI (pc := 7) rw_152_7 (g_o hG99 rfl) (v := (M.2.1 77 10)) c_101 ?_
          refine s_pI (pc := 10) rw_152_10 hG99 rfl (fun M103 W102 => ?_)
          have hG104 := g_wf hG99 W102 rfl rfl (by decide)
          have F105 := FR.w F100 W102 (show 77 = 77 ∧ (5 = 4 ∨ 5 = 5 ∨ 7 ≤ 5 ∧ 5 ≤ 10) ∨ 77 = 77 ∧ (5 = 44 ∨ 5 = 52) ∨ 101 ≤ 77 ∧ 77 ≤ 108 by decide)
          refine to_c (pc := 13) rw_152_13 (x := (0 : Int32)) rfl rfl ?_
          refine s_r1 (pc := 14) rw_152_14 (A := 0) rfl (by decide) ?_
          refine s_r1 (pc := 105) rw_215_105 (A := 0) rfl (by decide) ?_
          have k_106 : (0 : Int32).toInt = 0 := rfl
          have c_107 : M103.2.1 77 4 = (2 : Int32) := (W_n W102 (by decide) (W_e W97))
          have k_108 : (2 : Int32).toInt = 2 := rfl
          have t_109 : (M103.2.1 77 4).toInt = (2 : Int32).toInt := congrArg Int32.toInt c_107
          have c_110 : M103.2.1 77 5 = (M.2.1 77 10) := (W_e W102)
          have t_111 : (M103.2.1 77 5).toInt = (M.2.1 77 10).toInt := congrArg Int32.toInt c_110
          exact h (0 : Int32) M103 hG104 F105 (by decide) (by decide) (fun z => by exfalso; omega) (fun z => by exfalso; omega) (fun _ => winl (by omega) (by omega) (w_40 (by omega) (by omega) (by omega) (by omega) (by omega)))
      · refine to_an (pc := 67) rw_215_67 rfl ?_
        refine tt_gI (pc := 68) rw_215_68 (g_o hG rfl) (v := (M.2.1 77 9)) rfl ?_
        refine to_c (pc := 71) rw_215_71 (x := (10 : Int32)) rfl rfl ?_
        refine b_ceq (pc := 73) rw_215_73 (A := (M.2.1 77 9).toInt) (B := 10) rfl rfl (fun h112 => ?_) (fun h112 => ?_)
        · have z_113 := RS_1 q1 (a := a) (by omega) (by omega)
          refine to_an (pc := 91) rw_215_91 rfl ?_
          refine tt_gI (pc := 92) rw_215_92 (g_o hG rfl) (v := (M.2.1 77 44)) rfl ?_
          refine to_c (pc := 95) rw_215_95 (x := (40 : Int32)) rfl rfl ?_
          refine b_cne (pc := 97) rw_215_97 (A := (M.2.1 77 44).toInt) (B := 40) rfl rfl (fun h114 => ?_) (fun h114 => ?_)
          · refine to_an (pc := 106) rw_215_106 rfl ?_
            refine tt_gI (pc := 107) rw_215_107 (g_o hG rfl) (v := (M.2.1 77 44)) rfl ?_
            refine to_isn (pc := 110) rw_215_110 (ls2 := [.ref 77, .int (M.2.1 77 44)]) rfl rfl ?_
            refine to_an (pc := 111) rw_215_111 rfl ?_
            refine s_gR (pc := 112) rw_215_112 hG rfl (v := 101) rfl ?_
            refine to_in (pc := 115) rw_215_115 rfl ?_
            refine to_an (pc := 116) rw_215_116 rfl ?_
            refine tt_gI (pc := 117) rw_215_117 (g_o hG rfl) (v := (M.2.1 77 9)) rfl ?_
            refine to_c (pc := 120) rw_215_120 (x := (7 : Int32)) rfl rfl ?_
            refine b_cne_t (pc := 122) rw_215_122 (A := (M.2.1 77 9).toInt) (B := 7) rfl rfl (by omega) ?_
            refine to_an (pc := 129) rw_215_129 rfl ?_
            refine tt_gI (pc := 130) rw_215_130 (g_o hG rfl) (v := (M.2.1 77 9)) rfl ?_
            refine to_c (pc := 133) rw_215_133 (x := (10 : Int32)) rfl rfl ?_
            refine b_cne_f (pc := 135) rw_215_135 (A := (M.2.1 77 9).toInt) (B := 10) rfl rfl (by omega) ?_
            refine to_c (pc := 138) rw_215_138 (x := (1 : Int32)) rfl rfl ?_
            refine to_go (pc := 139) rw_215_139 ?_
            refine s_ias (pc := 143) rw_215_143 hG rfl (n := 40) rfl (A := (M.2.1 77 44).toInt) rfl (by omega) (by omega) (fun M116 W115 => ?_)
            have hG117 := g_w hG W115 (A := 1) rfl (lo := 0) (hi := 2) rfl rfl (by omega) (by decide)
            have F118 := FR.w F0 W115 (show 101 = 77 ∧ (((M.2.1 77 44).toInt).toNat = 4 ∨ ((M.2.1 77 44).toInt).toNat = 5 ∨ 7 ≤ ((M.2.1 77 44).toInt).toNat ∧ ((M.2.1 77 44).toInt).toNat ≤ 10) ∨ 101 = 77 ∧ (((M.2.1 77 44).toInt).toNat = 44 ∨ ((M.2.1 77 44).toInt).toNat = 52) ∨ 101 ≤ 101 ∧ 101 ≤ 108 by omega)
            refine to_an (pc := 144) rw_215_144 rfl ?_
            refine to_dupr (pc := 145) rw_215_145 ?_
            have c_119 : M116.2.1 77 44 = (M.2.1 77 44) := (W_n W115 (fun z => absurd z.1 (by decide)) rfl)
            refine tt_gI (pc := 146) rw_215_146 (g_o hG117 rfl) (v := (M.2.1 77 44)) c_119 ?_
            refine to_c (pc := 149) rw_215_149 (x := (1 : Int32)) rfl rfl ?_
            refine s_add (pc := 150) rw_215_150 (A := (M.2.1 77 44).toInt) (B := 1) rfl rfl (by omega) (fun v120 e121 => ?_)
            refine s_pI (pc := 151) rw_215_151 hG117 rfl (fun M123 W122 => ?_)
            have hG124 := g_w hG117 W122 (A := v120.toInt) rfl (lo := 0) (hi := 40) rfl rfl (by omega) (by decide)
            have F125 := FR.w F118 W122 (show 77 = 77 ∧ (44 = 4 ∨ 44 = 5 ∨ 7 ≤ 44 ∧ 44 ≤ 10) ∨ 77 = 77 ∧ (44 = 44 ∨ 44 = 52) ∨ 101 ≤ 77 ∧ 77 ≤ 108 by decide)
            refine to_an (pc := 154) rw_215_154 rfl ?_
            refine s_v (pc := 155) rw_215_155 (dp0 hd (by decide)) (ls0 := [.ref 77]) rfl (Nat.le_of_ble_eq_true rfl) (Nat.le_of_ble_eq_true rfl) rfl (to_rc rfl rfl rfl (g_o hG124 rfl)) rfl ?_
            have c_126 : M123.2.1 77 7 = (M.2.1 77 7) := (W_n W122 (by decide) (W_n W115 (fun z => absurd z.1 (by decide)) rfl))
            have t_127 : (M123.2.1 77 7).toInt = (M.2.1 77 7).toInt := congrArg Int32.toInt c_126
            have c_128 : M123.2.1 77 6 = (M.2.1 77 6) := (W_n W122 (by decide) (W_n W115 (fun z => absurd z.1 (by decide)) rfl))
            have t_129 : (M123.2.1 77 6).toInt = (M.2.1 77 6).toInt := congrArg Int32.toInt c_128
            have c_130 : M123.2.1 77 10 = (M.2.1 77 10) := (W_n W122 (by decide) (W_n W115 (fun z => absurd z.1 (by decide)) rfl))
            have t_131 : (M123.2.1 77 10).toInt = (M.2.1 77 10).toInt := congrArg Int32.toInt c_130
            have j_132 := (RS_f (fun a i z => W_n W122 (tg_206 a i z) rfl) (RS_f (fun a i z => W_n W115 (tg_207 a i _ z) rfl) q1))
            have z_133 := RS_b j_132 (a := a) (by omega)
            have j_134 := (TR_f (fun a i z => W_n W122 (tg_208 a i z) rfl) (TR_f (fun a i z => W_n W115 (tg_209 a i _ z) rfl) q5))
            have j_135 := (W9_f (fun a i z => W_n W122 (tg_210 a i z) rfl) (W9_f (fun a i z => W_n W115 (tg_211 a i _ z) rfl) q6))
            refine E_156 hX (dp1 hd (by decide)) hG124 (by omega) (by omega) (by omega) (by omega) j_134 j_135  (fun M142 hG137 F136 p_138 p_139 p_140 p_141 => ?_)
            have F143 := FR.c F125 F136 tg_204
            have b_144 := g_b hG137 (a := 77) (i := 7) (lo := 0) (hi := 500) rfl rfl
            have c_145 : M142.2.1 77 6 = (M.2.1 77 6) := (F_n F136 (show ¬ (77 = 77 ∧ 7 ≤ 6 ∧ 6 ≤ 10) by decide) c_128)
            have t_146 : (M142.2.1 77 6).toInt = (M.2.1 77 6).toInt := congrArg Int32.toInt c_145
            have b_147 := g_b hG137 (a := 77) (i := 8) (lo := 0) (hi := 5) rfl rfl
            have b_148 := g_b hG137 (a := 77) (i := 10) (lo := 0) (hi := 500) rfl rfl
            have z_149 := RS_s p_141.2 (a := a) (by omega)
            refine to_an (pc := 158) rw_215_158 rfl ?_
            refine s_gR (pc := 159) rw_215_159 hG137 rfl (v := 101) rfl ?_
            refine to_in (pc := 162) rw_215_162 rfl ?_
            refine s_ialk (pc := 163) rw_215_163 hG137 rfl (n := 40) rfl rfl (A := (M.2.1 77 44).toInt) rfl (by omega) (by omega) (v := (1 : Int32)) (F_n F136 (show ¬ (101 = 77 ∧ 7 ≤ ((M.2.1 77 44).toInt).toNat ∧ ((M.2.1 77 44).toInt).toNat ≤ 10) by omega) (W_n W122 (by omega) (W_e W115))) ?_
            refine b_ine_t (pc := 164) rw_215_164 (A := 1) rfl (by decide) ?_
            refine to_an (pc := 173) rw_215_173 rfl ?_
            refine s_gR (pc := 174) rw_215_174 hG137 rfl (v := 101) rfl ?_
            refine to_in (pc := 177) rw_215_177 rfl ?_
            refine s_ialk (pc := 178) rw_215_178 hG137 rfl (n := 40) rfl rfl (A := (M.2.1 77 44).toInt) rfl (by omega) (by omega) (v := (1 : Int32)) (F_n F136 (show ¬ (101 = 77 ∧ 7 ≤ ((M.2.1 77 44).toInt).toNat ∧ ((M.2.1 77 44).toInt).toNat ≤ 10) by omega) (W_n W122 (by omega) (W_e W115))) ?_
            refine to_c (pc := 179) rw_215_179 (x := (1 : Int32)) rfl rfl ?_
            refine b_cne_f (pc := 180) rw_215_180 (A := 1) (B := 1) rfl rfl (by decide) ?_
            refine to_an (pc := 183) rw_215_183 rfl ?_
            refine to_in (pc := 184) rw_215_184 rfl ?_
            refine s_v (pc := 185) rw_215_185 (dp0 hd (by decide)) (ls0 := [.ref 77, .int (M.2.1 77 44)]) rfl (Nat.le_of_ble_eq_true rfl) (Nat.le_of_ble_eq_true rfl) rfl (to_rc rfl rfl rfl (g_o hG137 rfl)) rfl ?_
            have j_154 := (TR_f (tg_42 F136) j_134)
            have j_155 := (W9_f (tg_44 F136) j_135)
            refine E_214 hX (dp1 hd (by decide)) hG137 (by omega) (by omega) p_141.1 (by omega) (by omega) (by omega) j_154 j_155 (e := (M.2.1 77 44)) (t := t) (nn := nn) (a := (x_ns t nn a)) (fun r156 M168 hG158 F157 p_159 p_160 p_161 p_162 p_163 p_164 p_165 p_166 p_167 => ?_)
            have F169 := FR.c F143 F157 tg_205
            rcases (show r156.toInt = 0 ∨ r156.toInt = 1 by omega) with h170 | h170
            · skip
              have p_171 := p_167 (by omega)
              clear p_161 p_165 p_166 p_167
              have z_172 := (w_jn (by omega) (by omega) (by omega) (by omega) (by omega)).trans (p_171 (x_ww t nn sg 0 (n9 + 1) op (x_k1 A9 n9 1 a)))
              refine s_r1 (pc := 188) rw_215_188 (A := r156.toInt) rfl (by omega) ?_
              exact h r156 M168 hG158 F169 (by omega) (by omega) (fun z => by exfalso; omega) (fun z => by exfalso; omega) (fun _ => winl (by omega) (by omega) z_172)
            · skip
              have p_173 := p_161 (by omega)
              have p_174 := p_165 (by omega)
              have p_175 := p_166 (by omega)
              clear p_161 p_165 p_166 p_167
              have z_176 := (w_jn (by omega) (by omega) (by omega) (by omega) (by omega)).trans (p_175 (x_ww t nn sg 0 (n9 + 1) op (x_k1 A9 n9 1 a)))
              refine s_r1 (pc := 188) rw_215_188 (A := r156.toInt) rfl (by omega) ?_
              have b_177 := g_b hG158 (a := 77) (i := 10) (lo := 0) (hi := 500) rfl rfl
              have c_178 : M168.2.1 77 44 = v120 := (F_n F157 (show ¬ (77 = 77 ∧ (44 = 4 ∨ 44 = 5 ∨ 7 ≤ 44 ∧ 44 ≤ 10) ∨ 102 ≤ 77 ∧ 77 ≤ 104 ∨ 77 = 106 ∨ 77 = 107) by decide) (F_n F136 (show ¬ (77 = 77 ∧ 7 ≤ 44 ∧ 44 ≤ 10) by decide) (W_e W122)))
              have t_179 : (M168.2.1 77 44).toInt = v120.toInt := congrArg Int32.toInt c_178
              have c_180 : M168.2.1 77 52 = (M.2.1 77 52) := (F_n F157 (show ¬ (77 = 77 ∧ (52 = 4 ∨ 52 = 5 ∨ 7 ≤ 52 ∧ 52 ≤ 10) ∨ 102 ≤ 77 ∧ 77 ≤ 104 ∨ 77 = 106 ∨ 77 = 107) by decide) (F_n F136 (show ¬ (77 = 77 ∧ 7 ≤ 52 ∧ 52 ≤ 10) by decide) (W_n W122 (by decide) (W_n W115 (fun z => absurd z.1 (by decide)) rfl))))
              have t_181 : (M168.2.1 77 52).toInt = (M.2.1 77 52).toInt := congrArg Int32.toInt c_180
              have k_182 : (1 : Int32).toInt = 1 := rfl
              exact h r156 M168 hG158 F169 (by omega) (by omega) (fun _ => p_173) (fun _ => WS_p (k := 1) (by decide) (by omega) q11 q12 q13 q14 (fun r i z z2 => by
                  by_cases e : r = 101
                  · subst e; exact (F_n F157 (show ¬ (101 = 77 ∧ (i = 4 ∨ i = 5 ∨ 7 ≤ i ∧ i ≤ 10) ∨ 102 ≤ 101 ∧ 101 ≤ 104 ∨ 101 = 106 ∨ 101 = 107) by omega) (F_n F136 (show ¬ (101 = 77 ∧ 7 ≤ i ∧ i ≤ 10) by omega) (W_n W122 (by omega) (W_n W115 (by omega) rfl))))
                  · by_cases e7 : r = 107
                    · subst e7; exact (p_163 i (by omega)).trans (F_n F136 (show ¬ (107 = 77 ∧ 7 ≤ i ∧ i ≤ 10) by omega) (W_n W122 (by omega) (W_n W115 (by omega) rfl)))
                    · exact (p_162 r i (by omega) (by omega)).trans (F_n F136 (show ¬ (r = 77 ∧ 7 ≤ i ∧ i ≤ 10) by omega) (W_n W122 (by omega) (W_n W115 (by omega) rfl)))) (fun i z2 => (p_164 i (by omega)).trans (F_nl F136 (show ¬ (106 = 77 ∧ 7 ≤ i ∧ i ≤ 10) by omega) (W_j W122 (W_j W115 rfl)))) (PR_1 (by omega) (by rw [show n9.toNat = ((M.2.1 77 44).toInt).toNat by omega]; exact p_174)) (by rw [show n9.toNat = ((M.2.1 77 44).toInt).toNat by omega, show M168.2.1 101 ((M.2.1 77 44).toInt).toNat = (1 : Int32) from (F_n F157 (show ¬ (101 = 77 ∧ (((M.2.1 77 44).toInt).toNat = 4 ∨ ((M.2.1 77 44).toInt).toNat = 5 ∨ 7 ≤ ((M.2.1 77 44).toInt).toNat ∧ ((M.2.1 77 44).toInt).toNat ≤ 10) ∨ 102 ≤ 101 ∧ 101 ≤ 104 ∨ 101 = 106 ∨ 101 = 107) by omega) (F_n F136 (show ¬ (101 = 77 ∧ 7 ≤ ((M.2.1 77 44).toInt).toNat ∧ ((M.2.1 77 44).toInt).toNat ≤ 10) by omega) (W_n W122 (by omega) (W_e W115))))]; exact (show (1 : Int32).toInt = 1 by omega)) (fun r i z => (F_n F157 (show ¬ (r = 77 ∧ (i = 4 ∨ i = 5 ∨ 7 ≤ i ∧ i ≤ 10) ∨ 102 ≤ r ∧ r ≤ 104 ∨ r = 106 ∨ r = 107) by omega) (F_n F136 (show ¬ (r = 77 ∧ 7 ≤ i ∧ i ≤ 10) by omega) (W_n W122 (by omega) (W_n W115 (by omega) rfl))))) (by omega) (by omega) z_176) (fun z => by exfalso; omega)
          · refine to_an (pc := 100) rw_215_100 rfl ?_
            refine to_c (pc := 101) rw_215_101 (x := (2 : Int32)) rfl rfl ?_
            refine s_v (pc := 102) rw_215_102 (dp0 hd (by decide)) (ls0 := [.ref 77, .int (2 : Int32)]) rfl (Nat.le_of_ble_eq_true rfl) (Nat.le_of_ble_eq_true rfl) rfl (to_rc rfl rfl rfl (g_o hG rfl)) rfl ?_
            refine to_an (pc := 0) rw_152_0 rfl ?_
            refine to_in (pc := 1) rw_152_1 rfl ?_
            refine s_pI (pc := 2) rw_152_2 hG rfl (fun M184 W183 => ?_)
            have hG185 := g_wf hG W183 rfl rfl (by decide)
            have F186 := FR.w F0 W183 (show 77 = 77 ∧ (4 = 4 ∨ 4 = 5 ∨ 7 ≤ 4 ∧ 4 ≤ 10) ∨ 77 = 77 ∧ (4 = 44 ∨ 4 = 52) ∨ 101 ≤ 77 ∧ 77 ≤ 108 by decide)
            refine to_an (pc := 5) rw_152_5 rfl ?_
            refine to_an (pc := 6) rw_152_6 rfl ?_
            have c_187 : M184.2.1 77 10 = (M.2.1 77 10) := (W_n W183 (by decide) rfl)
            refine tt_gI (pc := 7) rw_152_7 (g_o hG185 rfl) (v := (M.2.1 77 10)) c_187 ?_
            refine s_pI (pc := 10) rw_152_10 hG185 rfl (fun M189 W188 => ?_)
            have hG190 := g_wf hG185 W188 rfl rfl (by decide)
            have F191 := FR.w F186 W188 (show 77 = 77 ∧ (5 = 4 ∨ 5 = 5 ∨ 7 ≤ 5 ∧ 5 ≤ 10) ∨ 77 = 77 ∧ (5 = 44 ∨ 5 = 52) ∨ 101 ≤ 77 ∧ 77 ≤ 108 by decide)
            refine to_c (pc := 13) rw_152_13 (x := (0 : Int32)) rfl rfl ?_
            refine s_r1 (pc := 14) rw_152_14 (A := 0) rfl (by decide) ?_
            refine s_r1 (pc := 105) rw_215_105 (A := 0) rfl (by decide) ?_
            have k_192 : (0 : Int32).toInt = 0 := rfl
            have c_193 : M189.2.1 77 4 = (2 : Int32) := (W_n W188 (by decide) (W_e W183))
            have k_194 : (2 : Int32).toInt = 2 := rfl
            have t_195 : (M189.2.1 77 4).toInt = (2 : Int32).toInt := congrArg Int32.toInt c_193
            have c_196 : M189.2.1 77 5 = (M.2.1 77 10) := (W_e W188)
            have t_197 : (M189.2.1 77 5).toInt = (M.2.1 77 10).toInt := congrArg Int32.toInt c_196
            exact h (0 : Int32) M189 hG190 F191 (by decide) (by decide) (fun z => by exfalso; omega) (fun z => by exfalso; omega) (fun _ => winl (by omega) (by omega) (w_40 (by omega) (by omega) (by omega) (by omega) (by omega)))
        · refine to_an (pc := 76) rw_215_76 rfl ?_
          refine tt_gI (pc := 77) rw_215_77 (g_o hG rfl) (v := (M.2.1 77 9)) rfl ?_
          refine to_c (pc := 80) rw_215_80 (x := (11 : Int32)) rfl rfl ?_
          refine b_ceq (pc := 82) rw_215_82 (A := (M.2.1 77 9).toInt) (B := 11) rfl rfl (fun h198 => ?_) (fun h198 => ?_)
          · have z_199 := RS_1 q1 (a := a) (by omega) (by omega)
            refine to_an (pc := 91) rw_215_91 rfl ?_
            refine tt_gI (pc := 92) rw_215_92 (g_o hG rfl) (v := (M.2.1 77 44)) rfl ?_
            refine to_c (pc := 95) rw_215_95 (x := (40 : Int32)) rfl rfl ?_
            refine b_cne (pc := 97) rw_215_97 (A := (M.2.1 77 44).toInt) (B := 40) rfl rfl (fun h200 => ?_) (fun h200 => ?_)
            · refine to_an (pc := 106) rw_215_106 rfl ?_
              refine tt_gI (pc := 107) rw_215_107 (g_o hG rfl) (v := (M.2.1 77 44)) rfl ?_
              refine to_isn (pc := 110) rw_215_110 (ls2 := [.ref 77, .int (M.2.1 77 44)]) rfl rfl ?_
              refine to_an (pc := 111) rw_215_111 rfl ?_
              refine s_gR (pc := 112) rw_215_112 hG rfl (v := 101) rfl ?_
              refine to_in (pc := 115) rw_215_115 rfl ?_
              refine to_an (pc := 116) rw_215_116 rfl ?_
              refine tt_gI (pc := 117) rw_215_117 (g_o hG rfl) (v := (M.2.1 77 9)) rfl ?_
              refine to_c (pc := 120) rw_215_120 (x := (7 : Int32)) rfl rfl ?_
              refine b_cne_t (pc := 122) rw_215_122 (A := (M.2.1 77 9).toInt) (B := 7) rfl rfl (by omega) ?_
              refine to_an (pc := 129) rw_215_129 rfl ?_
              refine tt_gI (pc := 130) rw_215_130 (g_o hG rfl) (v := (M.2.1 77 9)) rfl ?_
              refine to_c (pc := 133) rw_215_133 (x := (10 : Int32)) rfl rfl ?_
              refine b_cne_t (pc := 135) rw_215_135 (A := (M.2.1 77 9).toInt) (B := 10) rfl rfl (by omega) ?_
              refine to_c (pc := 142) rw_215_142 (x := (2 : Int32)) rfl rfl ?_
              refine s_ias (pc := 143) rw_215_143 hG rfl (n := 40) rfl (A := (M.2.1 77 44).toInt) rfl (by omega) (by omega) (fun M202 W201 => ?_)
              have hG203 := g_w hG W201 (A := 2) rfl (lo := 0) (hi := 2) rfl rfl (by omega) (by decide)
              have F204 := FR.w F0 W201 (show 101 = 77 ∧ (((M.2.1 77 44).toInt).toNat = 4 ∨ ((M.2.1 77 44).toInt).toNat = 5 ∨ 7 ≤ ((M.2.1 77 44).toInt).toNat ∧ ((M.2.1 77 44).toInt).toNat ≤ 10) ∨ 101 = 77 ∧ (((M.2.1 77 44).toInt).toNat = 44 ∨ ((M.2.1 77 44).toInt).toNat = 52) ∨ 101 ≤ 101 ∧ 101 ≤ 108 by omega)
              refine to_an (pc := 144) rw_215_144 rfl ?_
              refine to_dupr (pc := 145) rw_215_145 ?_
              have c_205 : M202.2.1 77 44 = (M.2.1 77 44) := (W_n W201 (fun z => absurd z.1 (by decide)) rfl)
              refine tt_gI (pc := 146) rw_215_146 (g_o hG203 rfl) (v := (M.2.1 77 44)) c_205 ?_
              refine to_c (pc := 149) rw_215_149 (x := (1 : Int32)) rfl rfl ?_
              refine s_add (pc := 150) rw_215_150 (A := (M.2.1 77 44).toInt) (B := 1) rfl rfl (by omega) (fun v206 e207 => ?_)
              refine s_pI (pc := 151) rw_215_151 hG203 rfl (fun M209 W208 => ?_)
              have hG210 := g_w hG203 W208 (A := v206.toInt) rfl (lo := 0) (hi := 40) rfl rfl (by omega) (by decide)
              have F211 := FR.w F204 W208 (show 77 = 77 ∧ (44 = 4 ∨ 44 = 5 ∨ 7 ≤ 44 ∧ 44 ≤ 10) ∨ 77 = 77 ∧ (44 = 44 ∨ 44 = 52) ∨ 101 ≤ 77 ∧ 77 ≤ 108 by decide)
              refine to_an (pc := 154) rw_215_154 rfl ?_
              refine s_v (pc := 155) rw_215_155 (dp0 hd (by decide)) (ls0 := [.ref 77]) rfl (Nat.le_of_ble_eq_true rfl) (Nat.le_of_ble_eq_true rfl) rfl (to_rc rfl rfl rfl (g_o hG210 rfl)) rfl ?_
              have c_212 : M209.2.1 77 7 = (M.2.1 77 7) := (W_n W208 (by decide) (W_n W201 (fun z => absurd z.1 (by decide)) rfl))
              have t_213 : (M209.2.1 77 7).toInt = (M.2.1 77 7).toInt := congrArg Int32.toInt c_212
              have c_214 : M209.2.1 77 6 = (M.2.1 77 6) := (W_n W208 (by decide) (W_n W201 (fun z => absurd z.1 (by decide)) rfl))
              have t_215 : (M209.2.1 77 6).toInt = (M.2.1 77 6).toInt := congrArg Int32.toInt c_214
              have c_216 : M209.2.1 77 10 = (M.2.1 77 10) := (W_n W208 (by decide) (W_n W201 (fun z => absurd z.1 (by decide)) rfl))
              have t_217 : (M209.2.1 77 10).toInt = (M.2.1 77 10).toInt := congrArg Int32.toInt c_216
              have j_218 := (RS_f (fun a i z => W_n W208 (tg_206 a i z) rfl) (RS_f (fun a i z => W_n W201 (tg_207 a i _ z) rfl) q1))
              have z_219 := RS_b j_218 (a := a) (by omega)
              have j_220 := (TR_f (fun a i z => W_n W208 (tg_208 a i z) rfl) (TR_f (fun a i z => W_n W201 (tg_209 a i _ z) rfl) q5))
              have j_221 := (W9_f (fun a i z => W_n W208 (tg_210 a i z) rfl) (W9_f (fun a i z => W_n W201 (tg_211 a i _ z) rfl) q6))
              refine E_156 hX (dp1 hd (by decide)) hG210 (by omega) (by omega) (by omega) (by omega) j_220 j_221  (fun M228 hG223 F222 p_224 p_225 p_226 p_227 => ?_)
              have F229 := FR.c F211 F222 tg_204
              have b_230 := g_b hG223 (a := 77) (i := 7) (lo := 0) (hi := 500) rfl rfl
              have c_231 : M228.2.1 77 6 = (M.2.1 77 6) := (F_n F222 (show ¬ (77 = 77 ∧ 7 ≤ 6 ∧ 6 ≤ 10) by decide) c_214)
              have t_232 : (M228.2.1 77 6).toInt = (M.2.1 77 6).toInt := congrArg Int32.toInt c_231
              have b_233 := g_b hG223 (a := 77) (i := 8) (lo := 0) (hi := 5) rfl rfl
              have b_234 := g_b hG223 (a := 77) (i := 10) (lo := 0) (hi := 500) rfl rfl
              have z_235 := RS_s p_227.2 (a := a) (by omega)
              refine to_an (pc := 158) rw_215_158 rfl ?_
              refine s_gR (pc := 159) rw_215_159 hG223 rfl (v := 101) rfl ?_
              refine to_in (pc := 162) rw_215_162 rfl ?_
              refine s_ialk (pc := 163) rw_215_163 hG223 rfl (n := 40) rfl rfl (A := (M.2.1 77 44).toInt) rfl (by omega) (by omega) (v := (2 : Int32)) (F_n F222 (show ¬ (101 = 77 ∧ 7 ≤ ((M.2.1 77 44).toInt).toNat ∧ ((M.2.1 77 44).toInt).toNat ≤ 10) by omega) (W_n W208 (by omega) (W_e W201))) ?_
              refine b_ine_t (pc := 164) rw_215_164 (A := 2) rfl (by decide) ?_
              refine to_an (pc := 173) rw_215_173 rfl ?_
              refine s_gR (pc := 174) rw_215_174 hG223 rfl (v := 101) rfl ?_
              refine to_in (pc := 177) rw_215_177 rfl ?_
              refine s_ialk (pc := 178) rw_215_178 hG223 rfl (n := 40) rfl rfl (A := (M.2.1 77 44).toInt) rfl (by omega) (by omega) (v := (2 : Int32)) (F_n F222 (show ¬ (101 = 77 ∧ 7 ≤ ((M.2.1 77 44).toInt).toNat ∧ ((M.2.1 77 44).toInt).toNat ≤ 10) by omega) (W_n W208 (by omega) (W_e W201))) ?_
              refine to_c (pc := 179) rw_215_179 (x := (1 : Int32)) rfl rfl ?_
              refine b_cne_t (pc := 180) rw_215_180 (A := 2) (B := 1) rfl rfl (by decide) ?_
              have z_240 := RS_k p_227.1 (a := (x_ns t nn a)) (by omega)
              refine to_an (pc := 189) rw_215_189 rfl ?_
              refine to_c (pc := 190) rw_215_190 (x := (0 : Int32)) rfl rfl ?_
              refine to_c (pc := 191) rw_215_191 (x := (99 : Int32)) rfl rfl ?_
              refine s_v (pc := 193) rw_215_193 (dp0 hd (by decide)) (ls0 := [.ref 77, .int (0 : Int32), .int (99 : Int32)]) rfl (Nat.le_of_ble_eq_true rfl) (Nat.le_of_ble_eq_true rfl) rfl (to_rc rfl rfl rfl (g_o hG223 rfl)) rfl ?_
              refine to_an (pc := 0) rw_162_0 rfl ?_
              refine tt_gI (pc := 1) rw_162_1 (g_o hG223 rfl) (v := (M228.2.1 77 8)) rfl ?_
              refine to_c (pc := 4) rw_162_4 (x := (3 : Int32)) rfl rfl ?_
              refine b_ceq (pc := 5) rw_162_5 (A := (M228.2.1 77 8).toInt) (B := 3) rfl rfl (fun h241 => ?_) (fun h241 => ?_)
              · refine to_an (pc := 14) rw_162_14 rfl ?_
                refine tt_gI (pc := 15) rw_162_15 (g_o hG223 rfl) (v := (M228.2.1 77 9)) rfl ?_
                refine to_in (pc := 18) rw_162_18 rfl ?_
                refine b_clt (pc := 19) rw_162_19 (A := (M228.2.1 77 9).toInt) (B := 0) rfl rfl (fun h242 => ?_) (fun h242 => ?_)
                · refine to_an (pc := 30) rw_162_30 rfl ?_
                  refine to_c (pc := 31) rw_162_31 (x := (2 : Int32)) rfl rfl ?_
                  refine s_v (pc := 32) rw_162_32 (dp1 hd (by decide)) (ls0 := [.ref 77, .int (2 : Int32)]) rfl (Nat.le_of_ble_eq_true rfl) (Nat.le_of_ble_eq_true rfl) rfl (to_rc rfl rfl rfl (g_o hG223 rfl)) rfl ?_
                  refine to_an (pc := 0) rw_152_0 rfl ?_
                  refine to_in (pc := 1) rw_152_1 rfl ?_
                  refine s_pI (pc := 2) rw_152_2 hG223 rfl (fun M244 W243 => ?_)
                  have hG245 := g_wf hG223 W243 rfl rfl (by decide)
                  have F246 := FR.w F229 W243 (show 77 = 77 ∧ (4 = 4 ∨ 4 = 5 ∨ 7 ≤ 4 ∧ 4 ≤ 10) ∨ 77 = 77 ∧ (4 = 44 ∨ 4 = 52) ∨ 101 ≤ 77 ∧ 77 ≤ 108 by decide)
                  refine to_an (pc := 5) rw_152_5 rfl ?_
                  refine to_an (pc := 6) rw_152_6 rfl ?_
                  have c_247 : M244.2.1 77 10 = (M228.2.1 77 10) := (W_n W243 (by decide) rfl)
                  refine tt_gI (pc := 7) rw_152_7 (g_o hG245 rfl) (v := (M228.2.1 77 10)) c_247 ?_
                  refine s_pI (pc := 10) rw_152_10 hG245 rfl (fun M249 W248 => ?_)
                  have hG250 := g_wf hG245 W248 rfl rfl (by decide)
                  have F251 := FR.w F246 W248 (show 77 = 77 ∧ (5 = 4 ∨ 5 = 5 ∨ 7 ≤ 5 ∧ 5 ≤ 10) ∨ 77 = 77 ∧ (5 = 44 ∨ 5 = 52) ∨ 101 ≤ 77 ∧ 77 ≤ 108 by decide)
                  refine to_c (pc := 13) rw_152_13 (x := (0 : Int32)) rfl rfl ?_
                  refine s_r1 (pc := 14) rw_152_14 (A := 0) rfl (by decide) ?_
                  refine b_ieq_t (pc := 35) rw_162_35 (A := 0) rfl (by decide) ?_
                  refine to_c (pc := 42) rw_162_42 (x := (0 : Int32)) rfl rfl ?_
                  refine s_r1 (pc := 43) rw_162_43 (A := 0) rfl (by decide) ?_
                  refine b_ine_f (pc := 196) rw_215_196 (A := 0) rfl (by decide) ?_
                  have c_252 : M249.2.1 77 4 = (2 : Int32) := (W_n W248 (by decide) (W_e W243))
                  have c_253 : M249.2.1 77 8 = (M228.2.1 77 8) := (W_n W248 (by decide) (W_n W243 (by decide) rfl))
                  have t_254 : (M249.2.1 77 8).toInt = (M228.2.1 77 8).toInt := congrArg Int32.toInt c_253
                  have c_255 : M249.2.1 77 9 = (M228.2.1 77 9) := (W_n W248 (by decide) (W_n W243 (by decide) rfl))
                  have t_256 : (M249.2.1 77 9).toInt = (M228.2.1 77 9).toInt := congrArg Int32.toInt c_255
                  have c_257 : M249.2.1 77 10 = (M228.2.1 77 10) := (W_n W248 (by decide) c_247)
                  have t_258 : (M249.2.1 77 10).toInt = (M228.2.1 77 10).toInt := congrArg Int32.toInt c_257
                  have j_259 := (RS_f (fun a i z => W_n W248 (tg_37 a i z) rfl) (RS_f (fun a i z => W_n W243 (tg_38 a i z) rfl) p_227.1))
                  have z_260 := RS_3x j_259 (a := (x_ns t nn a)) (m := 99) (by omega) (by omega) (by omega) (by omega)
                  refine to_c (pc := 199) rw_215_199 (x := (0 : Int32)) rfl rfl ?_
                  refine s_r1 (pc := 200) rw_215_200 (A := 0) rfl (by decide) ?_
                  have k_261 : (0 : Int32).toInt = 0 := rfl
                  have k_262 : (2 : Int32).toInt = 2 := rfl
                  have t_263 : (M249.2.1 77 4).toInt = (2 : Int32).toInt := congrArg Int32.toInt c_252
                  have c_264 : M249.2.1 77 5 = (M228.2.1 77 10) := (W_e W248)
                  have t_265 : (M249.2.1 77 5).toInt = (M228.2.1 77 10).toInt := congrArg Int32.toInt c_264
                  exact h (0 : Int32) M249 hG250 F251 (by decide) (by decide) (fun z => by exfalso; omega) (fun z => by exfalso; omega) (fun _ => winl (by omega) (by omega) ((w_ag (by omega) (by omega) (by omega) (by omega) (by omega)).trans (ag_2 (by omega) (by omega))))
                · refine to_an (pc := 22) rw_162_22 rfl ?_
                  refine tt_gI (pc := 23) rw_162_23 (g_o hG223 rfl) (v := (M228.2.1 77 9)) rfl ?_
                  refine to_in (pc := 26) rw_162_26 rfl ?_
                  refine b_cle (pc := 27) rw_162_27 (A := (M228.2.1 77 9).toInt) (B := 99) rfl rfl (fun h266 => ?_) (fun h266 => ?_)
                  · refine to_c (pc := 38) rw_162_38 (x := (1 : Int32)) rfl rfl ?_
                    refine to_go (pc := 39) rw_162_39 ?_
                    refine s_r1 (pc := 43) rw_162_43 (A := 1) rfl (by decide) ?_
                    refine b_ine_t (pc := 196) rw_215_196 (A := 1) rfl (by decide) ?_
                    have z_267 := RS_3 p_227.1 (a := (x_ns t nn a)) (by omega) (by omega) (by omega)
                    refine to_an (pc := 201) rw_215_201 rfl ?_
                    refine s_gR (pc := 202) rw_215_202 hG223 rfl (v := 102) rfl ?_
                    refine to_in (pc := 205) rw_215_205 rfl ?_
                    refine to_an (pc := 206) rw_215_206 rfl ?_
                    refine tt_gI (pc := 207) rw_215_207 (g_o hG223 rfl) (v := (M228.2.1 77 9)) rfl ?_
                    refine s_ias (pc := 210) rw_215_210 hG223 rfl (n := 40) rfl (A := (M.2.1 77 44).toInt) rfl (by omega) (by omega) (fun M269 W268 => ?_)
                    have hG270 := g_w hG223 W268 (A := (M228.2.1 77 9).toInt) rfl (lo := -1) (hi := 99) rfl rfl (by omega) (by decide)
                    have F271 := FR.w F229 W268 (show 102 = 77 ∧ (((M.2.1 77 44).toInt).toNat = 4 ∨ ((M.2.1 77 44).toInt).toNat = 5 ∨ 7 ≤ ((M.2.1 77 44).toInt).toNat ∧ ((M.2.1 77 44).toInt).toNat ≤ 10) ∨ 102 = 77 ∧ (((M.2.1 77 44).toInt).toNat = 44 ∨ ((M.2.1 77 44).toInt).toNat = 52) ∨ 101 ≤ 102 ∧ 102 ≤ 108 by omega)
                    refine to_an (pc := 211) rw_215_211 rfl ?_
                    refine s_v (pc := 212) rw_215_212 (dp0 hd (by decide)) (ls0 := [.ref 77]) rfl (Nat.le_of_ble_eq_true rfl) (Nat.le_of_ble_eq_true rfl) rfl (to_rc rfl rfl rfl (g_o hG270 rfl)) rfl ?_
                    have c_272 : M269.2.1 77 7 = (M228.2.1 77 7) := (W_n W268 (fun z => absurd z.1 (by decide)) rfl)
                    have t_273 : (M269.2.1 77 7).toInt = (M228.2.1 77 7).toInt := congrArg Int32.toInt c_272
                    have c_274 : M269.2.1 77 6 = (M.2.1 77 6) := (W_n W268 (fun z => absurd z.1 (by decide)) c_231)
                    have t_275 : (M269.2.1 77 6).toInt = (M.2.1 77 6).toInt := congrArg Int32.toInt c_274
                    have c_276 : M269.2.1 77 10 = (M228.2.1 77 10) := (W_n W268 (fun z => absurd z.1 (by decide)) rfl)
                    have t_277 : (M269.2.1 77 10).toInt = (M228.2.1 77 10).toInt := congrArg Int32.toInt c_276
                    have j_278 := (RS_f (fun a i z => W_n W268 (tg_189 a i _ z) rfl) p_227.1)
                    have z_279 := RS_b j_278 (a := (x_ns t nn a)) (by omega)
                    have j_280 := (TR_f (fun a i z => W_n W268 (tg_190 a i _ z) rfl) (TR_f (tg_42 F222) j_220))
                    have j_281 := (W9_f (fun a i z => W_n W268 (tg_191 a i _ z) rfl) (W9_f (tg_44 F222) j_221))
                    refine E_156 hX (dp1 hd (by decide)) hG270 (by omega) (by omega) (by omega) (by omega) j_280 j_281  (fun M288 hG283 F282 p_284 p_285 p_286 p_287 => ?_)
                    have F289 := FR.c F271 F282 tg_204
                    have b_290 := g_b hG283 (a := 77) (i := 7) (lo := 0) (hi := 500) rfl rfl
                    have c_291 : M288.2.1 77 6 = (M.2.1 77 6) := (F_n F282 (show ¬ (77 = 77 ∧ 7 ≤ 6 ∧ 6 ≤ 10) by decide) c_274)
                    have t_292 : (M288.2.1 77 6).toInt = (M.2.1 77 6).toInt := congrArg Int32.toInt c_291
                    have b_293 := g_b hG283 (a := 77) (i := 8) (lo := 0) (hi := 5) rfl rfl
                    have b_294 := g_b hG283 (a := 77) (i := 10) (lo := 0) (hi := 500) rfl rfl
                    have z_295 := RS_s p_287.2 (a := (x_ns t nn a)) (by omega)
                    have z_296 := RS_k p_287.1 (a := (x_ns t nn (x_ns t nn a))) (by omega)
                    refine to_an (pc := 215) rw_215_215 rfl ?_
                    refine to_c (pc := 216) rw_215_216 (x := (40 : Int32)) rfl rfl ?_
                    refine s_v (pc := 218) rw_215_218 (dp0 hd (by decide)) (ls0 := [.ref 77, .int (40 : Int32)]) rfl (Nat.le_of_ble_eq_true rfl) (Nat.le_of_ble_eq_true rfl) rfl (to_rc rfl rfl rfl (g_o hG283 rfl)) rfl ?_
                    refine to_an (pc := 0) rw_159_0 rfl ?_
                    refine tt_gI (pc := 1) rw_159_1 (g_o hG283 rfl) (v := (M288.2.1 77 8)) rfl ?_
                    refine to_c (pc := 4) rw_159_4 (x := (4 : Int32)) rfl rfl ?_
                    refine b_cne (pc := 5) rw_159_5 (A := (M288.2.1 77 8).toInt) (B := 4) rfl rfl (fun h297 => ?_) (fun h297 => ?_)
                    · refine to_c (pc := 20) rw_159_20 (x := (0 : Int32)) rfl rfl ?_
                      refine s_r1 (pc := 21) rw_159_21 (A := 0) rfl (by decide) ?_
                      refine b_ine_f (pc := 221) rw_215_221 (A := 0) rfl (by decide) ?_
                      refine to_an (pc := 224) rw_215_224 rfl ?_
                      refine to_c (pc := 225) rw_215_225 (x := (1 : Int32)) rfl rfl ?_
                      refine s_v (pc := 226) rw_215_226 (dp0 hd (by decide)) (ls0 := [.ref 77, .int (1 : Int32)]) rfl (Nat.le_of_ble_eq_true rfl) (Nat.le_of_ble_eq_true rfl) rfl (to_rc rfl rfl rfl (g_o hG283 rfl)) rfl ?_
                      refine to_an (pc := 0) rw_152_0 rfl ?_
                      refine to_in (pc := 1) rw_152_1 rfl ?_
                      refine s_pI (pc := 2) rw_152_2 hG283 rfl (fun M299 W298 => ?_)
                      have hG300 := g_wf hG283 W298 rfl rfl (by decide)
                      have F301 := FR.w F289 W298 (show 77 = 77 ∧ (4 = 4 ∨ 4 = 5 ∨ 7 ≤ 4 ∧ 4 ≤ 10) ∨ 77 = 77 ∧ (4 = 44 ∨ 4 = 52) ∨ 101 ≤ 77 ∧ 77 ≤ 108 by decide)
                      refine to_an (pc := 5) rw_152_5 rfl ?_
                      refine to_an (pc := 6) rw_152_6 rfl ?_
                      have c_302 : M299.2.1 77 10 = (M288.2.1 77 10) := (W_n W298 (by decide) rfl)
                      refine tt_gI (pc := 7) rw_152_7 (g_o hG300 rfl) (v := (M288.2.1 77 10)) c_302 ?_
                      refine s_pI (pc := 10) rw_152_10 hG300 rfl (fun M304 W303 => ?_)
                      have hG305 := g_wf hG300 W303 rfl rfl (by decide)
                      have F306 := FR.w F301 W303 (show 77 = 77 ∧ (5 = 4 ∨ 5 = 5 ∨ 7 ≤ 5 ∧ 5 ≤ 10) ∨ 77 = 77 ∧ (5 = 44 ∨ 5 = 52) ∨ 101 ≤ 77 ∧ 77 ≤ 108 by decide)
                      refine to_c (pc := 13) rw_152_13 (x := (0 : Int32)) rfl rfl ?_
                      refine s_r1 (pc := 14) rw_152_14 (A := 0) rfl (by decide) ?_
                      refine s_r1 (pc := 229) rw_215_229 (A := 0) rfl (by decide) ?_
                      have k_307 : (0 : Int32).toInt = 0 := rfl
                      have c_308 : M304.2.1 77 4 = (1 : Int32) := (W_n W303 (by decide) (W_e W298))
                      have k_309 : (1 : Int32).toInt = 1 := rfl
                      have t_310 : (M304.2.1 77 4).toInt = (1 : Int32).toInt := congrArg Int32.toInt c_308
                      have c_311 : M304.2.1 77 5 = (M288.2.1 77 10) := (W_e W303)
                      have t_312 : (M304.2.1 77 5).toInt = (M288.2.1 77 10).toInt := congrArg Int32.toInt c_311
                      exact h (0 : Int32) M304 hG305 F306 (by decide) (by decide) (fun z => by exfalso; omega) (fun z => by exfalso; omega) (fun _ => winl (by omega) (by omega) ((w_ag (by omega) (by omega) (by omega) (by omega) (by omega)).trans (ag_3 (by omega) (by omega) (by omega))))
                    · refine to_an (pc := 8) rw_159_8 rfl ?_
                      refine tt_gI (pc := 9) rw_159_9 (g_o hG283 rfl) (v := (M288.2.1 77 9)) rfl ?_
                      refine to_in (pc := 12) rw_159_12 rfl ?_
                      refine b_cne (pc := 13) rw_159_13 (A := (M288.2.1 77 9).toInt) (B := 40) rfl rfl (fun h313 => ?_) (fun h313 => ?_)
                      · refine to_c (pc := 20) rw_159_20 (x := (0 : Int32)) rfl rfl ?_
                        refine s_r1 (pc := 21) rw_159_21 (A := 0) rfl (by decide) ?_
                        refine b_ine_f (pc := 221) rw_215_221 (A := 0) rfl (by decide) ?_
                        have z_314 := RS_4 p_287.1 (a := (x_ns t nn (x_ns t nn a))) (by omega) (by omega)
                        refine to_an (pc := 224) rw_215_224 rfl ?_
                        refine to_c (pc := 225) rw_215_225 (x := (1 : Int32)) rfl rfl ?_
                        refine s_v (pc := 226) rw_215_226 (dp0 hd (by decide)) (ls0 := [.ref 77, .int (1 : Int32)]) rfl (Nat.le_of_ble_eq_true rfl) (Nat.le_of_ble_eq_true rfl) rfl (to_rc rfl rfl rfl (g_o hG283 rfl)) rfl ?_
                        refine to_an (pc := 0) rw_152_0 rfl ?_
                        refine to_in (pc := 1) rw_152_1 rfl ?_
                        refine s_pI (pc := 2) rw_152_2 hG283 rfl (fun M316 W315 => ?_)
                        have hG317 := g_wf hG283 W315 rfl rfl (by decide)
                        have F318 := FR.w F289 W315 (show 77 = 77 ∧ (4 = 4 ∨ 4 = 5 ∨ 7 ≤ 4 ∧ 4 ≤ 10) ∨ 77 = 77 ∧ (4 = 44 ∨ 4 = 52) ∨ 101 ≤ 77 ∧ 77 ≤ 108 by decide)
                        refine to_an (pc := 5) rw_152_5 rfl ?_
                        refine to_an (pc := 6) rw_152_6 rfl ?_
                        have c_319 : M316.2.1 77 10 = (M288.2.1 77 10) := (W_n W315 (by decide) rfl)
                        refine tt_gI (pc := 7) rw_152_7 (g_o hG317 rfl) (v := (M288.2.1 77 10)) c_319 ?_
                        refine s_pI (pc := 10) rw_152_10 hG317 rfl (fun M321 W320 => ?_)
                        have hG322 := g_wf hG317 W320 rfl rfl (by decide)
                        have F323 := FR.w F318 W320 (show 77 = 77 ∧ (5 = 4 ∨ 5 = 5 ∨ 7 ≤ 5 ∧ 5 ≤ 10) ∨ 77 = 77 ∧ (5 = 44 ∨ 5 = 52) ∨ 101 ≤ 77 ∧ 77 ≤ 108 by decide)
                        refine to_c (pc := 13) rw_152_13 (x := (0 : Int32)) rfl rfl ?_
                        refine s_r1 (pc := 14) rw_152_14 (A := 0) rfl (by decide) ?_
                        refine s_r1 (pc := 229) rw_215_229 (A := 0) rfl (by decide) ?_
                        have k_324 : (0 : Int32).toInt = 0 := rfl
                        have c_325 : M321.2.1 77 4 = (1 : Int32) := (W_n W320 (by decide) (W_e W315))
                        have k_326 : (1 : Int32).toInt = 1 := rfl
                        have t_327 : (M321.2.1 77 4).toInt = (1 : Int32).toInt := congrArg Int32.toInt c_325
                        have c_328 : M321.2.1 77 5 = (M288.2.1 77 10) := (W_e W320)
                        have t_329 : (M321.2.1 77 5).toInt = (M288.2.1 77 10).toInt := congrArg Int32.toInt c_328
                        exact h (0 : Int32) M321 hG322 F323 (by decide) (by decide) (fun z => by exfalso; omega) (fun z => by exfalso; omega) (fun _ => winl (by omega) (by omega) ((w_ag (by omega) (by omega) (by omega) (by omega) (by omega)).trans (ag_3 (by omega) (by omega) (by omega))))
                      · refine to_c (pc := 16) rw_159_16 (x := (1 : Int32)) rfl rfl ?_
                        refine to_go (pc := 17) rw_159_17 ?_
                        refine s_r1 (pc := 21) rw_159_21 (A := 1) rfl (by decide) ?_
                        refine b_ine_t (pc := 221) rw_215_221 (A := 1) rfl (by decide) ?_
                        have z_330 := RS_4 p_287.1 (a := (x_ns t nn (x_ns t nn a))) (by omega) (by omega)
                        refine to_an (pc := 230) rw_215_230 rfl ?_
                        have c_331 : M288.2.1 77 52 = (M.2.1 77 52) := (F_n F282 (show ¬ (77 = 77 ∧ 7 ≤ 52 ∧ 52 ≤ 10) by decide) (W_n W268 (fun z => absurd z.1 (by decide)) (F_n F222 (show ¬ (77 = 77 ∧ 7 ≤ 52 ∧ 52 ≤ 10) by decide) (W_n W208 (by decide) (W_n W201 (fun z => absurd z.1 (by decide)) rfl)))))
                        refine tt_gI (pc := 231) rw_215_231 (g_o hG283 rfl) (v := (M.2.1 77 52)) c_331 ?_
                        refine to_c (pc := 234) rw_215_234 (x := (5 : Int32)) rfl rfl ?_
                        refine b_cne (pc := 235) rw_215_235 (A := (M.2.1 77 52).toInt) (B := 5) rfl rfl (fun h332 => ?_) (fun h332 => ?_)
                        · refine to_an (pc := 244) rw_215_244 rfl ?_
                          refine s_gR (pc := 245) rw_215_245 hG283 rfl (v := 108) rfl ?_
                          refine to_an (pc := 248) rw_215_248 rfl ?_
                          refine tt_gI (pc := 249) rw_215_249 (g_o hG283 rfl) (v := (M.2.1 77 52)) c_331 ?_
                          refine to_in (pc := 252) rw_215_252 rfl ?_
                          refine s_ias (pc := 253) rw_215_253 hG283 rfl (n := 5) rfl (A := (M.2.1 77 52).toInt) rfl (by omega) (by omega) (fun M334 W333 => ?_)
                          have hG335 := g_w hG283 W333 (A := (M.2.1 77 44).toInt) rfl (lo := 0) (hi := 39) rfl rfl (by omega) (by decide)
                          have F336 := FR.w F289 W333 (show 108 = 77 ∧ (((M.2.1 77 52).toInt).toNat = 4 ∨ ((M.2.1 77 52).toInt).toNat = 5 ∨ 7 ≤ ((M.2.1 77 52).toInt).toNat ∧ ((M.2.1 77 52).toInt).toNat ≤ 10) ∨ 108 = 77 ∧ (((M.2.1 77 52).toInt).toNat = 44 ∨ ((M.2.1 77 52).toInt).toNat = 52) ∨ 101 ≤ 108 ∧ 108 ≤ 108 by omega)
                          refine to_an (pc := 254) rw_215_254 rfl ?_
                          refine to_dupr (pc := 255) rw_215_255 ?_
                          have c_337 : M334.2.1 77 52 = (M.2.1 77 52) := (W_n W333 (fun z => absurd z.1 (by decide)) c_331)
                          refine tt_gI (pc := 256) rw_215_256 (g_o hG335 rfl) (v := (M.2.1 77 52)) c_337 ?_
                          refine to_c (pc := 259) rw_215_259 (x := (1 : Int32)) rfl rfl ?_
                          refine s_add (pc := 260) rw_215_260 (A := (M.2.1 77 52).toInt) (B := 1) rfl rfl (by omega) (fun v338 e339 => ?_)
                          refine s_pI (pc := 261) rw_215_261 hG335 rfl (fun M341 W340 => ?_)
                          have hG342 := g_w hG335 W340 (A := v338.toInt) rfl (lo := 0) (hi := 5) rfl rfl (by omega) (by decide)
                          have F343 := FR.w F336 W340 (show 77 = 77 ∧ (52 = 4 ∨ 52 = 5 ∨ 7 ≤ 52 ∧ 52 ≤ 10) ∨ 77 = 77 ∧ (52 = 44 ∨ 52 = 52) ∨ 101 ≤ 77 ∧ 77 ≤ 108 by decide)
                          refine to_an (pc := 264) rw_215_264 rfl ?_
                          refine s_v (pc := 265) rw_215_265 (dp0 hd (by decide)) (ls0 := [.ref 77]) rfl (Nat.le_of_ble_eq_true rfl) (Nat.le_of_ble_eq_true rfl) rfl (to_rc rfl rfl rfl (g_o hG342 rfl)) rfl ?_
                          have c_344 : M341.2.1 77 7 = (M288.2.1 77 7) := (W_n W340 (by decide) (W_n W333 (fun z => absurd z.1 (by decide)) rfl))
                          have t_345 : (M341.2.1 77 7).toInt = (M288.2.1 77 7).toInt := congrArg Int32.toInt c_344
                          have c_346 : M341.2.1 77 6 = (M.2.1 77 6) := (W_n W340 (by decide) (W_n W333 (fun z => absurd z.1 (by decide)) c_291))
                          have t_347 : (M341.2.1 77 6).toInt = (M.2.1 77 6).toInt := congrArg Int32.toInt c_346
                          have c_348 : M341.2.1 77 10 = (M288.2.1 77 10) := (W_n W340 (by decide) (W_n W333 (fun z => absurd z.1 (by decide)) rfl))
                          have t_349 : (M341.2.1 77 10).toInt = (M288.2.1 77 10).toInt := congrArg Int32.toInt c_348
                          have j_350 := (RS_f (fun a i z => W_n W340 (tg_214 a i z) rfl) (RS_f (fun a i z => W_n W333 (tg_215 a i _ z) rfl) p_287.1))
                          have z_351 := RS_b j_350 (a := (x_ns t nn (x_ns t nn a))) (by omega)
                          have j_352 := (TR_f (fun a i z => W_n W340 (tg_216 a i z) rfl) (TR_f (fun a i z => W_n W333 (tg_217 a i _ z) rfl) (TR_f (tg_42 F282) j_280)))
                          have j_353 := (W9_f (fun a i z => W_n W340 (tg_218 a i z) rfl) (W9_f (fun a i z => W_n W333 (tg_219 a i _ z) rfl) (W9_f (tg_44 F282) j_281)))
                          refine E_156 hX (dp1 hd (by decide)) hG342 (by omega) (by omega) (by omega) (by omega) j_352 j_353  (fun M360 hG355 F354 p_356 p_357 p_358 p_359 => ?_)
                          have F361 := FR.c F343 F354 tg_204
                          have b_362 := g_b hG355 (a := 77) (i := 7) (lo := 0) (hi := 500) rfl rfl
                          have c_363 : M360.2.1 77 6 = (M.2.1 77 6) := (F_n F354 (show ¬ (77 = 77 ∧ 7 ≤ 6 ∧ 6 ≤ 10) by decide) c_346)
                          have t_364 : (M360.2.1 77 6).toInt = (M.2.1 77 6).toInt := congrArg Int32.toInt c_363
                          have b_365 := g_b hG355 (a := 77) (i := 8) (lo := 0) (hi := 5) rfl rfl
                          have b_366 := g_b hG355 (a := 77) (i := 10) (lo := 0) (hi := 500) rfl rfl
                          have z_367 := RS_s p_359.2 (a := (x_ns t nn (x_ns t nn a))) (by omega)
                          refine to_c (pc := 268) rw_215_268 (x := (1 : Int32)) rfl rfl ?_
                          refine s_r1 (pc := 269) rw_215_269 (A := 1) rfl (by decide) ?_
                          have k_368 : (1 : Int32).toInt = 1 := rfl
                          have c_369 : M360.2.1 77 44 = v206 := (F_n F354 (show ¬ (77 = 77 ∧ 7 ≤ 44 ∧ 44 ≤ 10) by decide) (W_n W340 (by decide) (W_n W333 (fun z => absurd z.1 (by decide)) (F_n F282 (show ¬ (77 = 77 ∧ 7 ≤ 44 ∧ 44 ≤ 10) by decide) (W_n W268 (fun z => absurd z.1 (by decide)) (F_n F222 (show ¬ (77 = 77 ∧ 7 ≤ 44 ∧ 44 ≤ 10) by decide) (W_e W208)))))))
                          have t_370 : (M360.2.1 77 44).toInt = v206.toInt := congrArg Int32.toInt c_369
                          have c_371 : M360.2.1 77 52 = v338 := (F_n F354 (show ¬ (77 = 77 ∧ 7 ≤ 52 ∧ 52 ≤ 10) by decide) (W_e W340))
                          have t_372 : (M360.2.1 77 52).toInt = v338.toInt := congrArg Int32.toInt c_371
                          have k_373 : (2 : Int32).toInt = 2 := rfl
                          exact h (1 : Int32) M360 hG355 F361 (by decide) (by decide) (fun _ => p_359.1) (fun _ => WS_a (tm := x_val t nn (x_ns t nn a)) (by omega) q11 q12 q13 q14 (fun r i z z2 => (F_n F354 (show ¬ (r = 77 ∧ 7 ≤ i ∧ i ≤ 10) by omega) (W_n W340 (by omega) (W_n W333 (by omega) (F_n F282 (show ¬ (r = 77 ∧ 7 ≤ i ∧ i ≤ 10) by omega) (W_n W268 (by omega) (F_n F222 (show ¬ (r = 77 ∧ 7 ≤ i ∧ i ≤ 10) by omega) (W_n W208 (by omega) (W_n W201 (by omega) rfl))))))))) (fun i z2 => (F_nl F354 (show ¬ (106 = 77 ∧ 7 ≤ i ∧ i ≤ 10) by omega) (W_j W340 (W_j W333 (F_nl F282 (show ¬ (106 = 77 ∧ 7 ≤ i ∧ i ≤ 10) by omega) (W_j W268 (F_nl F222 (show ¬ (106 = 77 ∧ 7 ≤ i ∧ i ≤ 10) by omega) (W_j W208 (W_j W201 rfl))))))))) (by rw [show n9.toNat = ((M.2.1 77 44).toInt).toNat by omega, show M360.2.1 101 ((M.2.1 77 44).toInt).toNat = (2 : Int32) from (F_n F354 (show ¬ (101 = 77 ∧ 7 ≤ ((M.2.1 77 44).toInt).toNat ∧ ((M.2.1 77 44).toInt).toNat ≤ 10) by omega) (W_n W340 (by omega) (W_n W333 (by omega) (F_n F282 (show ¬ (101 = 77 ∧ 7 ≤ ((M.2.1 77 44).toInt).toNat ∧ ((M.2.1 77 44).toInt).toNat ≤ 10) by omega) (W_n W268 (by omega) (F_n F222 (show ¬ (101 = 77 ∧ 7 ≤ ((M.2.1 77 44).toInt).toNat ∧ ((M.2.1 77 44).toInt).toNat ≤ 10) by omega) (W_n W208 (by omega) (W_e W201))))))))]; exact (show (2 : Int32).toInt = 2 by omega)) (by rw [show n9.toNat = ((M.2.1 77 44).toInt).toNat by omega, show M360.2.1 102 ((M.2.1 77 44).toInt).toNat = (M228.2.1 77 9) from (F_n F354 (show ¬ (102 = 77 ∧ 7 ≤ ((M.2.1 77 44).toInt).toNat ∧ ((M.2.1 77 44).toInt).toNat ≤ 10) by omega) (W_n W340 (by omega) (W_n W333 (by omega) (F_n F282 (show ¬ (102 = 77 ∧ 7 ≤ ((M.2.1 77 44).toInt).toNat ∧ ((M.2.1 77 44).toInt).toNat ≤ 10) by omega) (W_e W268)))))]; exact (show (M228.2.1 77 9).toInt = x_val t nn (x_ns t nn a) by omega)) (fun i => (F_n F354 (show ¬ (105 = 77 ∧ 7 ≤ i ∧ i ≤ 10) by omega) (W_n W340 (by omega) (W_n W333 (by omega) (F_n F282 (show ¬ (105 = 77 ∧ 7 ≤ i ∧ i ≤ 10) by omega) (W_n W268 (by omega) (F_n F222 (show ¬ (105 = 77 ∧ 7 ≤ i ∧ i ≤ 10) by omega) (W_n W208 (by omega) (W_n W201 (by omega) rfl))))))))) (fun i z => (F_n F354 (show ¬ (108 = 77 ∧ 7 ≤ i ∧ i ≤ 10) by omega) (W_n W340 (by omega) (W_n W333 (by omega) (F_n F282 (show ¬ (108 = 77 ∧ 7 ≤ i ∧ i ≤ 10) by omega) (W_n W268 (by omega) (F_n F222 (show ¬ (108 = 77 ∧ 7 ≤ i ∧ i ≤ 10) by omega) (W_n W208 (by omega) (W_n W201 (by omega) rfl))))))))) (by rw [show ((M.2.1 77 52).toInt).toNat = ((M.2.1 77 52).toInt).toNat by omega, show M360.2.1 108 ((M.2.1 77 52).toInt).toNat = (M.2.1 77 44) from (F_n F354 (show ¬ (108 = 77 ∧ 7 ≤ (((M.2.1 77 52).toInt).toNat) ∧ (((M.2.1 77 52).toInt).toNat) ≤ 10) by omega) (W_n W340 (by omega) (W_e W333)))]; omega) (by omega) (by omega) (((w_ag (by omega) (by omega) (by omega) (by omega) (by omega)).trans (ag_y (by omega) (by omega) (by omega) (by omega))).trans (w_v rfl (by omega)))) (fun z => by exfalso; omega)
                        · refine to_an (pc := 238) rw_215_238 rfl ?_
                          refine to_c (pc := 239) rw_215_239 (x := (2 : Int32)) rfl rfl ?_
                          refine s_v (pc := 240) rw_215_240 (dp0 hd (by decide)) (ls0 := [.ref 77, .int (2 : Int32)]) rfl (Nat.le_of_ble_eq_true rfl) (Nat.le_of_ble_eq_true rfl) rfl (to_rc rfl rfl rfl (g_o hG283 rfl)) rfl ?_
                          refine to_an (pc := 0) rw_152_0 rfl ?_
                          refine to_in (pc := 1) rw_152_1 rfl ?_
                          refine s_pI (pc := 2) rw_152_2 hG283 rfl (fun M375 W374 => ?_)
                          have hG376 := g_wf hG283 W374 rfl rfl (by decide)
                          have F377 := FR.w F289 W374 (show 77 = 77 ∧ (4 = 4 ∨ 4 = 5 ∨ 7 ≤ 4 ∧ 4 ≤ 10) ∨ 77 = 77 ∧ (4 = 44 ∨ 4 = 52) ∨ 101 ≤ 77 ∧ 77 ≤ 108 by decide)
                          refine to_an (pc := 5) rw_152_5 rfl ?_
                          refine to_an (pc := 6) rw_152_6 rfl ?_
                          have c_378 : M375.2.1 77 10 = (M288.2.1 77 10) := (W_n W374 (by decide) rfl)
                          refine tt_gI (pc := 7) rw_152_7 (g_o hG376 rfl) (v := (M288.2.1 77 10)) c_378 ?_
                          refine s_pI (pc := 10) rw_152_10 hG376 rfl (fun M380 W379 => ?_)
                          have hG381 := g_wf hG376 W379 rfl rfl (by decide)
                          have F382 := FR.w F377 W379 (show 77 = 77 ∧ (5 = 4 ∨ 5 = 5 ∨ 7 ≤ 5 ∧ 5 ≤ 10) ∨ 77 = 77 ∧ (5 = 44 ∨ 5 = 52) ∨ 101 ≤ 77 ∧ 77 ≤ 108 by decide)
                          refine to_c (pc := 13) rw_152_13 (x := (0 : Int32)) rfl rfl ?_
                          refine s_r1 (pc := 14) rw_152_14 (A := 0) rfl (by decide) ?_
                          refine s_r1 (pc := 243) rw_215_243 (A := 0) rfl (by decide) ?_
                          have k_383 : (0 : Int32).toInt = 0 := rfl
                          have c_384 : M380.2.1 77 4 = (2 : Int32) := (W_n W379 (by decide) (W_e W374))
                          have k_385 : (2 : Int32).toInt = 2 := rfl
                          have t_386 : (M380.2.1 77 4).toInt = (2 : Int32).toInt := congrArg Int32.toInt c_384
                          have c_387 : M380.2.1 77 5 = (M288.2.1 77 10) := (W_e W379)
                          have t_388 : (M380.2.1 77 5).toInt = (M288.2.1 77 10).toInt := congrArg Int32.toInt c_387
                          exact h (0 : Int32) M380 hG381 F382 (by decide) (by decide) (fun z => by exfalso; omega) (fun z => by exfalso; omega) (fun _ => winl (by omega) (by omega) ((w_ag (by omega) (by omega) (by omega) (by omega) (by omega)).trans (ag_4 (by omega) (by omega) (by omega) (by omega))))
                  · refine to_an (pc := 30) rw_162_30 rfl ?_
                    refine to_c (pc := 31) rw_162_31 (x := (2 : Int32)) rfl rfl ?_
                    refine s_v (pc := 32) rw_162_32 (dp1 hd (by decide)) (ls0 := [.ref 77, .int (2 : Int32)]) rfl (Nat.le_of_ble_eq_true rfl) (Nat.le_of_ble_eq_true rfl) rfl (to_rc rfl rfl rfl (g_o hG223 rfl)) rfl ?_
                    refine to_an (pc := 0) rw_152_0 rfl ?_
                    refine to_in (pc := 1) rw_152_1 rfl ?_
                    refine s_pI (pc := 2) rw_152_2 hG223 rfl (fun M390 W389 => ?_)
                    have hG391 := g_wf hG223 W389 rfl rfl (by decide)
                    have F392 := FR.w F229 W389 (show 77 = 77 ∧ (4 = 4 ∨ 4 = 5 ∨ 7 ≤ 4 ∧ 4 ≤ 10) ∨ 77 = 77 ∧ (4 = 44 ∨ 4 = 52) ∨ 101 ≤ 77 ∧ 77 ≤ 108 by decide)
                    refine to_an (pc := 5) rw_152_5 rfl ?_
                    refine to_an (pc := 6) rw_152_6 rfl ?_
                    have c_393 : M390.2.1 77 10 = (M228.2.1 77 10) := (W_n W389 (by decide) rfl)
                    refine tt_gI (pc := 7) rw_152_7 (g_o hG391 rfl) (v := (M228.2.1 77 10)) c_393 ?_
                    refine s_pI (pc := 10) rw_152_10 hG391 rfl (fun M395 W394 => ?_)
                    have hG396 := g_wf hG391 W394 rfl rfl (by decide)
                    have F397 := FR.w F392 W394 (show 77 = 77 ∧ (5 = 4 ∨ 5 = 5 ∨ 7 ≤ 5 ∧ 5 ≤ 10) ∨ 77 = 77 ∧ (5 = 44 ∨ 5 = 52) ∨ 101 ≤ 77 ∧ 77 ≤ 108 by decide)
                    refine to_c (pc := 13) rw_152_13 (x := (0 : Int32)) rfl rfl ?_
                    refine s_r1 (pc := 14) rw_152_14 (A := 0) rfl (by decide) ?_
                    refine b_ieq_t (pc := 35) rw_162_35 (A := 0) rfl (by decide) ?_
                    refine to_c (pc := 42) rw_162_42 (x := (0 : Int32)) rfl rfl ?_
                    refine s_r1 (pc := 43) rw_162_43 (A := 0) rfl (by decide) ?_
                    refine b_ine_f (pc := 196) rw_215_196 (A := 0) rfl (by decide) ?_
                    have c_398 : M395.2.1 77 4 = (2 : Int32) := (W_n W394 (by decide) (W_e W389))
                    have c_399 : M395.2.1 77 8 = (M228.2.1 77 8) := (W_n W394 (by decide) (W_n W389 (by decide) rfl))
                    have t_400 : (M395.2.1 77 8).toInt = (M228.2.1 77 8).toInt := congrArg Int32.toInt c_399
                    have c_401 : M395.2.1 77 9 = (M228.2.1 77 9) := (W_n W394 (by decide) (W_n W389 (by decide) rfl))
                    have t_402 : (M395.2.1 77 9).toInt = (M228.2.1 77 9).toInt := congrArg Int32.toInt c_401
                    have c_403 : M395.2.1 77 10 = (M228.2.1 77 10) := (W_n W394 (by decide) c_393)
                    have t_404 : (M395.2.1 77 10).toInt = (M228.2.1 77 10).toInt := congrArg Int32.toInt c_403
                    have j_405 := (RS_f (fun a i z => W_n W394 (tg_37 a i z) rfl) (RS_f (fun a i z => W_n W389 (tg_38 a i z) rfl) p_227.1))
                    have z_406 := RS_3x j_405 (a := (x_ns t nn a)) (m := 99) (by omega) (by omega) (by omega) (by omega)
                    refine to_c (pc := 199) rw_215_199 (x := (0 : Int32)) rfl rfl ?_
                    refine s_r1 (pc := 200) rw_215_200 (A := 0) rfl (by decide) ?_
                    have k_407 : (0 : Int32).toInt = 0 := rfl
                    have k_408 : (2 : Int32).toInt = 2 := rfl
                    have t_409 : (M395.2.1 77 4).toInt = (2 : Int32).toInt := congrArg Int32.toInt c_398
                    have c_410 : M395.2.1 77 5 = (M228.2.1 77 10) := (W_e W394)
                    have t_411 : (M395.2.1 77 5).toInt = (M228.2.1 77 10).toInt := congrArg Int32.toInt c_410
                    exact h (0 : Int32) M395 hG396 F397 (by decide) (by decide) (fun z => by exfalso; omega) (fun z => by exfalso; omega) (fun _ => winl (by omega) (by omega) ((w_ag (by omega) (by omega) (by omega) (by omega) (by omega)).trans (ag_2 (by omega) (by omega))))
              · refine to_an (pc := 8) rw_162_8 rfl ?_
                refine to_c (pc := 9) rw_162_9 (x := (1 : Int32)) rfl rfl ?_
                refine s_v (pc := 10) rw_162_10 (dp1 hd (by decide)) (ls0 := [.ref 77, .int (1 : Int32)]) rfl (Nat.le_of_ble_eq_true rfl) (Nat.le_of_ble_eq_true rfl) rfl (to_rc rfl rfl rfl (g_o hG223 rfl)) rfl ?_
                refine to_an (pc := 0) rw_152_0 rfl ?_
                refine to_in (pc := 1) rw_152_1 rfl ?_
                refine s_pI (pc := 2) rw_152_2 hG223 rfl (fun M413 W412 => ?_)
                have hG414 := g_wf hG223 W412 rfl rfl (by decide)
                have F415 := FR.w F229 W412 (show 77 = 77 ∧ (4 = 4 ∨ 4 = 5 ∨ 7 ≤ 4 ∧ 4 ≤ 10) ∨ 77 = 77 ∧ (4 = 44 ∨ 4 = 52) ∨ 101 ≤ 77 ∧ 77 ≤ 108 by decide)
                refine to_an (pc := 5) rw_152_5 rfl ?_
                refine to_an (pc := 6) rw_152_6 rfl ?_
                have c_416 : M413.2.1 77 10 = (M228.2.1 77 10) := (W_n W412 (by decide) rfl)
                refine tt_gI (pc := 7) rw_152_7 (g_o hG414 rfl) (v := (M228.2.1 77 10)) c_416 ?_
                refine s_pI (pc := 10) rw_152_10 hG414 rfl (fun M418 W417 => ?_)
                have hG419 := g_wf hG414 W417 rfl rfl (by decide)
                have F420 := FR.w F415 W417 (show 77 = 77 ∧ (5 = 4 ∨ 5 = 5 ∨ 7 ≤ 5 ∧ 5 ≤ 10) ∨ 77 = 77 ∧ (5 = 44 ∨ 5 = 52) ∨ 101 ≤ 77 ∧ 77 ≤ 108 by decide)
                refine to_c (pc := 13) rw_152_13 (x := (0 : Int32)) rfl rfl ?_
                refine s_r1 (pc := 14) rw_152_14 (A := 0) rfl (by decide) ?_
                refine s_r1 (pc := 13) rw_162_13 (A := 0) rfl (by decide) ?_
                refine b_ine_f (pc := 196) rw_215_196 (A := 0) rfl (by decide) ?_
                have c_421 : M418.2.1 77 4 = (1 : Int32) := (W_n W417 (by decide) (W_e W412))
                refine to_c (pc := 199) rw_215_199 (x := (0 : Int32)) rfl rfl ?_
                refine s_r1 (pc := 200) rw_215_200 (A := 0) rfl (by decide) ?_
                have k_422 : (0 : Int32).toInt = 0 := rfl
                have k_423 : (1 : Int32).toInt = 1 := rfl
                have t_424 : (M418.2.1 77 4).toInt = (1 : Int32).toInt := congrArg Int32.toInt c_421
                have c_425 : M418.2.1 77 5 = (M228.2.1 77 10) := (W_e W417)
                have t_426 : (M418.2.1 77 5).toInt = (M228.2.1 77 10).toInt := congrArg Int32.toInt c_425
                exact h (0 : Int32) M418 hG419 F420 (by decide) (by decide) (fun z => by exfalso; omega) (fun z => by exfalso; omega) (fun _ => winl (by omega) (by omega) ((w_ag (by omega) (by omega) (by omega) (by omega) (by omega)).trans (ag_1 (by omega))))
            · refine to_an (pc := 100) rw_215_100 rfl ?_
              refine to_c (pc := 101) rw_215_101 (x := (2 : Int32)) rfl rfl ?_
              refine s_v (pc := 102) rw_215_102 (dp0 hd (by decide)) (ls0 := [.ref 77, .int (2 : Int32)]) rfl (Nat.le_of_ble_eq_true rfl) (Nat.le_of_ble_eq_true rfl) rfl (to_rc rfl rfl rfl (g_o hG rfl)) rfl ?_
              refine to_an (pc := 0) rw_152_0 rfl ?_
              refine to_in (pc := 1) rw_152_1 rfl ?_
              refine s_pI (pc := 2) rw_152_2 hG rfl (fun M428 W427 => ?_)
              have hG429 := g_wf hG W427 rfl rfl (by decide)
              have F430 := FR.w F0 W427 (show 77 = 77 ∧ (4 = 4 ∨ 4 = 5 ∨ 7 ≤ 4 ∧ 4 ≤ 10) ∨ 77 = 77 ∧ (4 = 44 ∨ 4 = 52) ∨ 101 ≤ 77 ∧ 77 ≤ 108 by decide)
              refine to_an (pc := 5) rw_152_5 rfl ?_
              refine to_an (pc := 6) rw_152_6 rfl ?_
              have c_431 : M428.2.1 77 10 = (M.2.1 77 10) := (W_n W427 (by decide) rfl)
              refine tt_gI (pc := 7) rw_152_7 (g_o hG429 rfl) (v := (M.2.1 77 10)) c_431 ?_
              refine s_pI (pc := 10) rw_152_10 hG429 rfl (fun M433 W432 => ?_)
              have hG434 := g_wf hG429 W432 rfl rfl (by decide)
              have F435 := FR.w F430 W432 (show 77 = 77 ∧ (5 = 4 ∨ 5 = 5 ∨ 7 ≤ 5 ∧ 5 ≤ 10) ∨ 77 = 77 ∧ (5 = 44 ∨ 5 = 52) ∨ 101 ≤ 77 ∧ 77 ≤ 108 by decide)
              refine to_c (pc := 13) rw_152_13 (x := (0 : Int32)) rfl rfl ?_
              refine s_r1 (pc := 14) rw_152_14 (A := 0) rfl (by decide) ?_
              refine s_r1 (pc := 105) rw_215_105 (A := 0) rfl (by decide) ?_
              have k_436 : (0 : Int32).toInt = 0 := rfl
              have c_437 : M433.2.1 77 4 = (2 : Int32) := (W_n W432 (by decide) (W_e W427))
              have k_438 : (2 : Int32).toInt = 2 := rfl
              have t_439 : (M433.2.1 77 4).toInt = (2 : Int32).toInt := congrArg Int32.toInt c_437
              have c_440 : M433.2.1 77 5 = (M.2.1 77 10) := (W_e W432)
              have t_441 : (M433.2.1 77 5).toInt = (M.2.1 77 10).toInt := congrArg Int32.toInt c_440
              exact h (0 : Int32) M433 hG434 F435 (by decide) (by decide) (fun z => by exfalso; omega) (fun z => by exfalso; omega) (fun _ => winl (by omega) (by omega) (w_40 (by omega) (by omega) (by omega) (by omega) (by omega)))
          · have z_442 := RS_1 q1 (a := a) (by omega) (by omega)
            refine to_an (pc := 85) rw_215_85 rfl ?_
            refine to_c (pc := 86) rw_215_86 (x := (1 : Int32)) rfl rfl ?_
            refine s_v (pc := 87) rw_215_87 (dp0 hd (by decide)) (ls0 := [.ref 77, .int (1 : Int32)]) rfl (Nat.le_of_ble_eq_true rfl) (Nat.le_of_ble_eq_true rfl) rfl (to_rc rfl rfl rfl (g_o hG rfl)) rfl ?_
            refine to_an (pc := 0) rw_152_0 rfl ?_
            refine to_in (pc := 1) rw_152_1 rfl ?_
            refine s_pI (pc := 2) rw_152_2 hG rfl (fun M444 W443 => ?_)
            have hG445 := g_wf hG W443 rfl rfl (by decide)
            have F446 := FR.w F0 W443 (show 77 = 77 ∧ (4 = 4 ∨ 4 = 5 ∨ 7 ≤ 4 ∧ 4 ≤ 10) ∨ 77 = 77 ∧ (4 = 44 ∨ 4 = 52) ∨ 101 ≤ 77 ∧ 77 ≤ 108 by decide)
            refine to_an (pc := 5) rw_152_5 rfl ?_
            refine to_an (pc := 6) rw_152_6 rfl ?_
            have c_447 : M444.2.1 77 10 = (M.2.1 77 10) := (W_n W443 (by decide) rfl)
            refine tt_gI (pc := 7) rw_152_7 (g_o hG445 rfl) (v := (M.2.1 77 10)) c_447 ?_
            refine s_pI (pc := 10) rw_152_10 hG445 rfl (fun M449 W448 => ?_)
            have hG450 := g_wf hG445 W448 rfl rfl (by decide)
            have F451 := FR.w F446 W448 (show 77 = 77 ∧ (5 = 4 ∨ 5 = 5 ∨ 7 ≤ 5 ∧ 5 ≤ 10) ∨ 77 = 77 ∧ (5 = 44 ∨ 5 = 52) ∨ 101 ≤ 77 ∧ 77 ≤ 108 by decide)
            refine to_c (pc := 13) rw_152_13 (x := (0 : Int32)) rfl rfl ?_
            refine s_r1 (pc := 14) rw_152_14 (A := 0) rfl (by decide) ?_
            refine s_r1 (pc := 90) rw_215_90 (A := 0) rfl (by decide) ?_
            have k_452 : (0 : Int32).toInt = 0 := rfl
            have c_453 : M449.2.1 77 4 = (1 : Int32) := (W_n W448 (by decide) (W_e W443))
            have k_454 : (1 : Int32).toInt = 1 := rfl
            have t_455 : (M449.2.1 77 4).toInt = (1 : Int32).toInt := congrArg Int32.toInt c_453
            have c_456 : M449.2.1 77 5 = (M.2.1 77 10) := (W_e W448)
            have t_457 : (M449.2.1 77 5).toInt = (M.2.1 77 10).toInt := congrArg Int32.toInt c_456
            exact h (0 : Int32) M449 hG450 F451 (by decide) (by decide) (fun z => by exfalso; omega) (fun z => by exfalso; omega) (fun _ => winl (by omega) (by omega) (w_kx (by omega) (by omega) (by omega) (by omega)))
  · refine to_an (pc := 8) rw_159_8 rfl ?_
    refine tt_gI (pc := 9) rw_159_9 (g_o hG rfl) (v := (M.2.1 77 9)) rfl ?_
    refine to_in (pc := 12) rw_159_12 rfl ?_
    refine b_cne (pc := 13) rw_159_13 (A := (M.2.1 77 9).toInt) (B := 41) rfl rfl (fun h458 => ?_) (fun h458 => ?_)
    · refine to_c (pc := 20) rw_159_20 (x := (0 : Int32)) rfl rfl ?_
      refine s_r1 (pc := 21) rw_159_21 (A := 0) rfl (by decide) ?_
      refine b_ieq_t (pc := 6) rw_215_6 (A := 0) rfl (by decide) ?_
      have z_459 := RS_4 q1 (a := a) (by omega) (by omega)
      refine to_an (pc := 50) rw_215_50 rfl ?_
      refine tt_gI (pc := 51) rw_215_51 (g_o hG rfl) (v := (M.2.1 77 8)) rfl ?_
      refine to_c (pc := 54) rw_215_54 (x := (1 : Int32)) rfl rfl ?_
      refine b_cne_t (pc := 55) rw_215_55 (A := (M.2.1 77 8).toInt) (B := 1) rfl rfl (by omega) ?_
      refine to_an (pc := 85) rw_215_85 rfl ?_
      refine to_c (pc := 86) rw_215_86 (x := (1 : Int32)) rfl rfl ?_
      refine s_v (pc := 87) rw_215_87 (dp0 hd (by decide)) (ls0 := [.ref 77, .int (1 : Int32)]) rfl (Nat.le_of_ble_eq_true rfl) (Nat.le_of_ble_eq_true rfl) rfl (to_rc rfl rfl rfl (g_o hG rfl)) rfl ?_
      refine to_an (pc := 0) rw_152_0 rfl ?_
      refine to_in (pc := 1) rw_152_1 rfl ?_
      refine s_pI (pc := 2) rw_152_2 hG rfl (fun M461 W460 => ?_)
      have hG462 := g_wf hG W460 rfl rfl (by decide)
      have F463 := FR.w F0 W460 (show 77 = 77 ∧ (4 = 4 ∨ 4 = 5 ∨ 7 ≤ 4 ∧ 4 ≤ 10) ∨ 77 = 77 ∧ (4 = 44 ∨ 4 = 52) ∨ 101 ≤ 77 ∧ 77 ≤ 108 by decide)
      refine to_an (pc := 5) rw_152_5 rfl ?_
      refine to_an (pc := 6) rw_152_6 rfl ?_
      have c_464 : M461.2.1 77 10 = (M.2.1 77 10) := (W_n W460 (by decide) rfl)
      refine tt_gI (pc := 7) rw_152_7 (g_o hG462 rfl) (v := (M.2.1 77 10)) c_464 ?_
      refine s_pI (pc := 10) rw_152_10 hG462 rfl (fun M466 W465 => ?_)
      have hG467 := g_wf hG462 W465 rfl rfl (by decide)
      have F468 := FR.w F463 W465 (show 77 = 77 ∧ (5 = 4 ∨ 5 = 5 ∨ 7 ≤ 5 ∧ 5 ≤ 10) ∨ 77 = 77 ∧ (5 = 44 ∨ 5 = 52) ∨ 101 ≤ 77 ∧ 77 ≤ 108 by decide)
      refine to_c (pc := 13) rw_152_13 (x := (0 : Int32)) rfl rfl ?_
      refine s_r1 (pc := 14) rw_152_14 (A := 0) rfl (by decide) ?_
      refine s_r1 (pc := 90) rw_215_90 (A := 0) rfl (by decide) ?_
      have k_469 : (0 : Int32).toInt = 0 := rfl
      have c_470 : M466.2.1 77 4 = (1 : Int32) := (W_n W465 (by decide) (W_e W460))
      have k_471 : (1 : Int32).toInt = 1 := rfl
      have t_472 : (M466.2.1 77 4).toInt = (1 : Int32).toInt := congrArg Int32.toInt c_470
      have c_473 : M466.2.1 77 5 = (M.2.1 77 10) := (W_e W465)
      have t_474 : (M466.2.1 77 5).toInt = (M.2.1 77 10).toInt := congrArg Int32.toInt c_473
      exact h (0 : Int32) M466 hG467 F468 (by decide) (by decide) (fun z => by exfalso; omega) (fun z => by exfalso; omega) (fun _ => winl (by omega) (by omega) (w_nx (by omega) (by omega) (by omega) (by omega) (by omega)))
    · refine to_c (pc := 16) rw_159_16 (x := (1 : Int32)) rfl rfl ?_
      refine to_go (pc := 17) rw_159_17 ?_
      refine s_r1 (pc := 21) rw_159_21 (A := 1) rfl (by decide) ?_
      refine b_ieq_f (pc := 6) rw_215_6 (A := 1) rfl (by decide) ?_
      refine to_an (pc := 9) rw_215_9 rfl ?_
      refine tt_gI (pc := 10) rw_215_10 (g_o hG rfl) (v := (M.2.1 77 52)) rfl ?_
      refine b_ile (pc := 13) rw_215_13 (A := (M.2.1 77 52).toInt) rfl (fun h475 => ?_) (fun h475 => ?_)
      · have z_476 := RS_4 q1 (a := a) (by omega) (by omega)
        refine to_an (pc := 50) rw_215_50 rfl ?_
        refine tt_gI (pc := 51) rw_215_51 (g_o hG rfl) (v := (M.2.1 77 8)) rfl ?_
        refine to_c (pc := 54) rw_215_54 (x := (1 : Int32)) rfl rfl ?_
        refine b_cne_t (pc := 55) rw_215_55 (A := (M.2.1 77 8).toInt) (B := 1) rfl rfl (by omega) ?_
        refine to_an (pc := 85) rw_215_85 rfl ?_
        refine to_c (pc := 86) rw_215_86 (x := (1 : Int32)) rfl rfl ?_
        refine s_v (pc := 87) rw_215_87 (dp0 hd (by decide)) (ls0 := [.ref 77, .int (1 : Int32)]) rfl (Nat.le_of_ble_eq_true rfl) (Nat.le_of_ble_eq_true rfl) rfl (to_rc rfl rfl rfl (g_o hG rfl)) rfl ?_
        refine to_an (pc := 0) rw_152_0 rfl ?_
        refine to_in (pc := 1) rw_152_1 rfl ?_
        refine s_pI (pc := 2) rw_152_2 hG rfl (fun M478 W477 => ?_)
        have hG479 := g_wf hG W477 rfl rfl (by decide)
        have F480 := FR.w F0 W477 (show 77 = 77 ∧ (4 = 4 ∨ 4 = 5 ∨ 7 ≤ 4 ∧ 4 ≤ 10) ∨ 77 = 77 ∧ (4 = 44 ∨ 4 = 52) ∨ 101 ≤ 77 ∧ 77 ≤ 108 by decide)
        refine to_an (pc := 5) rw_152_5 rfl ?_
        refine to_an (pc := 6) rw_152_6 rfl ?_
        have c_481 : M478.2.1 77 10 = (M.2.1 77 10) := (W_n W477 (by decide) rfl)
        refine tt_gI (pc := 7) rw_152_7 (g_o hG479 rfl) (v := (M.2.1 77 10)) c_481 ?_
        refine s_pI (pc := 10) rw_152_10 hG479 rfl (fun M483 W482 => ?_)
        have hG484 := g_wf hG479 W482 rfl rfl (by decide)
        have F485 := FR.w F480 W482 (show 77 = 77 ∧ (5 = 4 ∨ 5 = 5 ∨ 7 ≤ 5 ∧ 5 ≤ 10) ∨ 77 = 77 ∧ (5 = 44 ∨ 5 = 52) ∨ 101 ≤ 77 ∧ 77 ≤ 108 by decide)
        refine to_c (pc := 13) rw_152_13 (x := (0 : Int32)) rfl rfl ?_
        refine s_r1 (pc := 14) rw_152_14 (A := 0) rfl (by decide) ?_
        refine s_r1 (pc := 90) rw_215_90 (A := 0) rfl (by decide) ?_
        have k_486 : (0 : Int32).toInt = 0 := rfl
        have c_487 : M483.2.1 77 4 = (1 : Int32) := (W_n W482 (by decide) (W_e W477))
        have k_488 : (1 : Int32).toInt = 1 := rfl
        have t_489 : (M483.2.1 77 4).toInt = (1 : Int32).toInt := congrArg Int32.toInt c_487
        have c_490 : M483.2.1 77 5 = (M.2.1 77 10) := (W_e W482)
        have t_491 : (M483.2.1 77 5).toInt = (M.2.1 77 10).toInt := congrArg Int32.toInt c_490
        exact h (0 : Int32) M483 hG484 F485 (by decide) (by decide) (fun z => by exfalso; omega) (fun z => by exfalso; omega) (fun _ => winl (by omega) (by omega) (w_nx (by omega) (by omega) (by omega) (by omega) (by omega)))
      · have z_492 := RS_4 q1 (a := a) (by omega) (by omega)
        refine to_an (pc := 16) rw_215_16 rfl ?_
        refine to_dupr (pc := 17) rw_215_17 ?_
        refine tt_gI (pc := 18) rw_215_18 (g_o hG rfl) (v := (M.2.1 77 52)) rfl ?_
        refine to_c (pc := 21) rw_215_21 (x := (1 : Int32)) rfl rfl ?_
        refine s_sub (pc := 22) rw_215_22 (A := (M.2.1 77 52).toInt) (B := 1) rfl rfl (by omega) (fun v493 e494 => ?_)
        refine s_pI (pc := 23) rw_215_23 hG rfl (fun M496 W495 => ?_)
        have hG497 := g_w hG W495 (A := v493.toInt) rfl (lo := 0) (hi := 5) rfl rfl (by omega) (by decide)
        have F498 := FR.w F0 W495 (show 77 = 77 ∧ (52 = 4 ∨ 52 = 5 ∨ 7 ≤ 52 ∧ 52 ≤ 10) ∨ 77 = 77 ∧ (52 = 44 ∨ 52 = 52) ∨ 101 ≤ 77 ∧ 77 ≤ 108 by decide)
        refine to_an (pc := 26) rw_215_26 rfl ?_
        refine s_gR (pc := 27) rw_215_27 hG497 rfl (v := 105) rfl ?_
        refine to_an (pc := 30) rw_215_30 rfl ?_
        refine s_gR (pc := 31) rw_215_31 hG497 rfl (v := 108) rfl ?_
        refine to_an (pc := 34) rw_215_34 rfl ?_
        have c_499 : M496.2.1 77 52 = v493 := (W_e W495)
        refine tt_gI (pc := 35) rw_215_35 (g_o hG497 rfl) (v := v493) c_499 ?_
        refine s_ial (pc := 38) rw_215_38 hG497 rfl (n := 5) rfl rfl (A := v493.toInt) rfl (by omega) (by omega) (lo := 0) (hi := 39) rfl rfl (fun v500 w_501 _ _ => ?_)
        refine to_an (pc := 39) rw_215_39 rfl ?_
        have c_502 : M496.2.1 77 44 = (M.2.1 77 44) := (W_n W495 (by decide) rfl)
        refine tt_gI (pc := 40) rw_215_40 (g_o hG497 rfl) (v := (M.2.1 77 44)) c_502 ?_
        refine s_ias (pc := 43) rw_215_43 hG497 rfl (n := 40) rfl (A := v500.toInt) rfl (by omega) (by omega) (fun M504 W503 => ?_)
        have hG505 := g_w hG497 W503 (A := (M.2.1 77 44).toInt) rfl (lo := 0) (hi := 40) rfl rfl (by omega) (by decide)
        have F506 := FR.w F498 W503 (show 105 = 77 ∧ ((v500.toInt).toNat = 4 ∨ (v500.toInt).toNat = 5 ∨ 7 ≤ (v500.toInt).toNat ∧ (v500.toInt).toNat ≤ 10) ∨ 105 = 77 ∧ ((v500.toInt).toNat = 44 ∨ (v500.toInt).toNat = 52) ∨ 101 ≤ 105 ∧ 105 ≤ 108 by omega)
        refine to_an (pc := 44) rw_215_44 rfl ?_
        refine s_v (pc := 45) rw_215_45 (dp0 hd (by decide)) (ls0 := [.ref 77]) rfl (Nat.le_of_ble_eq_true rfl) (Nat.le_of_ble_eq_true rfl) rfl (to_rc rfl rfl rfl (g_o hG505 rfl)) rfl ?_
        have c_507 : M504.2.1 77 7 = (M.2.1 77 7) := (W_n W503 (fun z => absurd z.1 (by decide)) (W_n W495 (by decide) rfl))
        have t_508 : (M504.2.1 77 7).toInt = (M.2.1 77 7).toInt := congrArg Int32.toInt c_507
        have c_509 : M504.2.1 77 6 = (M.2.1 77 6) := (W_n W503 (fun z => absurd z.1 (by decide)) (W_n W495 (by decide) rfl))
        have t_510 : (M504.2.1 77 6).toInt = (M.2.1 77 6).toInt := congrArg Int32.toInt c_509
        have c_511 : M504.2.1 77 10 = (M.2.1 77 10) := (W_n W503 (fun z => absurd z.1 (by decide)) (W_n W495 (by decide) rfl))
        have t_512 : (M504.2.1 77 10).toInt = (M.2.1 77 10).toInt := congrArg Int32.toInt c_511
        have j_513 := (RS_f (fun a i z => W_n W503 (tg_220 a i _ z) rfl) (RS_f (fun a i z => W_n W495 (tg_214 a i z) rfl) q1))
        have z_514 := RS_b j_513 (a := a) (by omega)
        have j_515 := (TR_f (fun a i z => W_n W503 (tg_221 a i _ z) rfl) (TR_f (fun a i z => W_n W495 (tg_216 a i z) rfl) q5))
        have j_516 := (W9_f (fun a i z => W_n W503 (tg_222 a i _ z) rfl) (W9_f (fun a i z => W_n W495 (tg_218 a i z) rfl) q6))
        refine E_156 hX (dp1 hd (by decide)) hG505 (by omega) (by omega) (by omega) (by omega) j_515 j_516  (fun M523 hG518 F517 p_519 p_520 p_521 p_522 => ?_)
        have F524 := FR.c F506 F517 tg_204
        have b_525 := g_b hG518 (a := 77) (i := 7) (lo := 0) (hi := 500) rfl rfl
        have c_526 : M523.2.1 77 6 = (M.2.1 77 6) := (F_n F517 (show ¬ (77 = 77 ∧ 7 ≤ 6 ∧ 6 ≤ 10) by decide) c_509)
        have t_527 : (M523.2.1 77 6).toInt = (M.2.1 77 6).toInt := congrArg Int32.toInt c_526
        have b_528 := g_b hG518 (a := 77) (i := 8) (lo := 0) (hi := 5) rfl rfl
        have b_529 := g_b hG518 (a := 77) (i := 10) (lo := 0) (hi := 500) rfl rfl
        have z_530 := RS_s p_522.2 (a := a) (by omega)
        refine to_c (pc := 48) rw_215_48 (x := (1 : Int32)) rfl rfl ?_
        refine s_r1 (pc := 49) rw_215_49 (A := 1) rfl (by decide) ?_
        have k_531 : (1 : Int32).toInt = 1 := rfl
        have c_532 : M523.2.1 77 44 = (M.2.1 77 44) := (F_n F517 (show ¬ (77 = 77 ∧ 7 ≤ 44 ∧ 44 ≤ 10) by decide) (W_n W503 (fun z => absurd z.1 (by decide)) c_502))
        have t_533 : (M523.2.1 77 44).toInt = (M.2.1 77 44).toInt := congrArg Int32.toInt c_532
        have c_534 : M523.2.1 77 52 = v493 := (F_n F517 (show ¬ (77 = 77 ∧ 7 ≤ 52 ∧ 52 ≤ 10) by decide) (W_n W503 (fun z => absurd z.1 (by decide)) c_499))
        have t_535 : (M523.2.1 77 52).toInt = v493.toInt := congrArg Int32.toInt c_534
        exact h (1 : Int32) M523 hG518 F524 (by decide) (by decide) (fun _ => p_522.1) (fun _ => WS_c (w := 0) (k := (v493.toInt).toNat) q11 q12 q13 q14 rfl (by omega) (by omega) (by omega) (by omega) (by omega) ((W_n W495 (by omega) rfl).symm.trans w_501) (fun r i z => (F_n F517 (show ¬ (r = 77 ∧ 7 ≤ i ∧ i ≤ 10) by omega) (W_n W503 (by omega) (W_n W495 (by omega) rfl)))) (fun i => (F_nl F517 (show ¬ (106 = 77 ∧ 7 ≤ i ∧ i ≤ 10) by omega) (W_j W503 (W_j W495 rfl)))) (fun i z => (F_n F517 (show ¬ (105 = 77 ∧ 7 ≤ i ∧ i ≤ 10) by omega) (W_n W503 (by omega) (W_n W495 (by omega) rfl)))) (by rw [show M523.2.1 105 (v500.toInt).toNat = (M.2.1 77 44) from (F_n F517 (show ¬ (105 = 77 ∧ 7 ≤ ((v500.toInt).toNat) ∧ ((v500.toInt).toNat) ≤ 10) by omega) (W_e W503))]; omega) (by omega) (by omega) (by omega)) (fun z => by exfalso; omega)
