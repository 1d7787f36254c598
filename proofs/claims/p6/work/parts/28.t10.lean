theorem tg_186 : ∀ a i : Nat, (a = 77 ∧ 7 ≤ i ∧ i ≤ 10) → (a = 77 ∧ (i = 4 ∨ i = 5 ∨ 7 ≤ i ∧ i ≤ 10) ∨ a = 77 ∧ (i = 44 ∨ i = 52) ∨ 101 ≤ a ∧ a ≤ 108) := fun a i z => by omega
theorem tg_187 : ∀ a i : Nat, (a = 77 ∧ (i = 4 ∨ i = 5 ∨ 7 ≤ i ∧ i ≤ 10) ∨ 102 ≤ a ∧ a ≤ 104 ∨ a = 106 ∨ a = 107) → (a = 77 ∧ (i = 4 ∨ i = 5 ∨ 7 ≤ i ∧ i ≤ 10) ∨ a = 77 ∧ (i = 44 ∨ i = 52) ∨ 101 ≤ a ∧ a ≤ 108) := fun a i z => by omega
theorem tg_188 : ∀ a i : Nat, (a = 77 ∧ 6 ≤ i ∧ i ≤ 10) → ¬ (a = 77 ∧ i = 44) := fun a i z => by omega
theorem tg_189 : ∀ a i j : Nat, (a = 77 ∧ 6 ≤ i ∧ i ≤ 10) → ¬ (a = 101 ∧ i = j) := fun a i j z => by omega
theorem tg_190 : ∀ a i : Nat, a = 78 → ¬ (a = 77 ∧ i = 44) := fun a i z => by omega
theorem tg_191 : ∀ a i j : Nat, a = 78 → ¬ (a = 101 ∧ i = j) := fun a i j z => by omega
theorem tg_192 : ∀ a i : Nat, a = 79 → ¬ (a = 77 ∧ i = 44) := fun a i z => by omega
theorem tg_193 : ∀ a i j : Nat, a = 79 → ¬ (a = 101 ∧ i = j) := fun a i j z => by omega
theorem tg_194 : ∀ a i : Nat, (a = 77 ∧ 11 ≤ i ∧ i ≤ 13 ∨ 80 ≤ a ∧ a ≤ 84 ∧ i < 8 ∨ 85 ≤ a ∧ a ≤ 86 ∧ i < 12) → ¬ (a = 77 ∧ i = 44) := fun a i z => by omega
theorem tg_195 : ∀ a i j : Nat, (a = 77 ∧ 11 ≤ i ∧ i ≤ 13 ∨ 80 ≤ a ∧ a ≤ 84 ∧ i < 8 ∨ 85 ≤ a ∧ a ≤ 86 ∧ i < 12) → ¬ (a = 101 ∧ i = j) := fun a i j z => by omega
theorem tg_196 : ∀ a i : Nat, (a = 77 ∧ 6 ≤ i ∧ i ≤ 10) → ¬ (a = 77 ∧ i = 52) := fun a i z => by omega
theorem tg_197 : ∀ a i j : Nat, (a = 77 ∧ 6 ≤ i ∧ i ≤ 10) → ¬ (a = 108 ∧ i = j) := fun a i j z => by omega
theorem tg_198 : ∀ a i : Nat, a = 78 → ¬ (a = 77 ∧ i = 52) := fun a i z => by omega
theorem tg_199 : ∀ a i j : Nat, a = 78 → ¬ (a = 108 ∧ i = j) := fun a i j z => by omega
theorem tg_200 : ∀ a i : Nat, a = 79 → ¬ (a = 77 ∧ i = 52) := fun a i z => by omega
theorem tg_201 : ∀ a i j : Nat, a = 79 → ¬ (a = 108 ∧ i = j) := fun a i j z => by omega
theorem tg_202 : ∀ a i j : Nat, (a = 77 ∧ 6 ≤ i ∧ i ≤ 10) → ¬ (a = 105 ∧ i = j) := fun a i j z => by omega
theorem tg_203 : ∀ a i j : Nat, a = 78 → ¬ (a = 105 ∧ i = j) := fun a i j z => by omega
theorem tg_204 : ∀ a i j : Nat, a = 79 → ¬ (a = 105 ∧ i = j) := fun a i j z => by omega
set_option maxRecDepth 4000 in
set_option maxHeartbeats 0 in
theorem E_215 {X : mm_X} {d : Nat} {M : mm_M} {Q : Option Value → mm_M → Prop} {t : Nat → Int} {nn : Int} {a : Int} {sg : x_S} {n9 : Int} {op : List Int} {A9 : x_A} (hX : g_X X) (hd : 4 ≤ d) (hG : g_G M) (q1 : RS M t nn) (q2 : (M.2.1 77 10).toInt = a) (q3 : 0 ≤ nn) (q4 : nn ≤ 500) (q5 : TR M t nn) (q6 : W9 M) (q7 : PLk M sg) (q8 : (M.2.1 77 44).toInt = n9) (q9 : 0 ≤ n9) (q10 : ¬ (x_kind t nn a = 0 ∧ (M.2.1 77 52).toInt = 0)) (q11 : WKr M A9 n9 op) (q12 : OPR (orow M) op) (q13 : (op.length : Int) = (M.2.1 77 52).toInt) (q14 : ∀ m ∈ op, 0 ≤ m ∧ m < n9) (h : ∀ (r : Int32) (M1 : mm_M), g_G M1 → FR md_ac M M1 → (0 ≤ r.toInt) → (r.toInt ≤ 1) → ((r.toInt = 1 → RS M1 t nn)) → ((r.toInt = 1 → WS t nn sg (x_ww t nn sg 0 n9 op A9 a) M1)) → ((r.toInt = 0 → x_ww t nn sg 0 n9 op A9 a = Sum.inl ((M1.2.1 77 4).toInt, (M1.2.1 77 5).toInt))) → Q (some (.int r)) M1) : mm_T X d 214 0 [.ref 77, .null] [] M Q := by
  have F0 : FR md_ac M M := FR.rf
  have b_1 := g_b hG (a := 77) (i := 10) (lo := 0) (hi := 500) rfl rfl
  have b_2 := g_b hG (a := 77) (i := 44) (lo := 0) (hi := 40) rfl rfl
  have b_3 := g_b hG (a := 77) (i := 52) (lo := 0) (hi := 5) rfl rfl
  have b_4 := g_b hG (a := 77) (i := 8) (lo := 0) (hi := 5) rfl rfl
  have z_5 := RS_k q1 (a := a) (by omega)
  have b_6 := g_b hG (a := 77) (i := 6) (lo := 0) (hi := 500) rfl rfl
  have b_7 := g_b hG (a := 77) (i := 7) (lo := 0) (hi := 500) rfl rfl
  have z_8 := RS_b q1 (a := a) (by omega)
  have z_9 := q13
  refine to_an (pc := 0) rw_215_0 rfl ?_
  refine to_c (pc := 1) rw_215_1 (x := (41 : Int32)) rfl rfl ?_
  refine s_v (pc := 3) rw_215_3 (dp0 hd (by decide)) (ls0 := [.ref 77, .int (41 : Int32)]) rfl (Nat.le_of_ble_eq_true rfl) (Nat.le_of_ble_eq_true rfl) rfl (to_rc rfl rfl rfl (g_o hG rfl)) rfl ?_
  refine to_an (pc := 0) rw_159_0 rfl ?_
  refine tt_gI (pc := 1) rw_159_1 (g_o hG rfl) (v := (M.2.1 77 8)) rfl ?_
  refine to_c (pc := 4) rw_159_4 (x := (4 : Int32)) rfl rfl ?_
  refine b_cne (pc := 5) rw_159_5 (A := (M.2.1 77 8).toInt) (B := 4) rfl rfl (fun h10 => ?_) (fun h10 => ?_)
  · refine to_c (pc := 20) rw_159_20 (x := (0 : Int32)) rfl rfl ?_
    refine s_r1 (pc := 21) rw_159_21 (A := 0) rfl (by decide) ?_
    refine b_ieq_t (pc := 6) rw_215_6 (A := 0) rfl (by decide) ?_
    refine to_an (pc := 50) rw_215_50 rfl ?_
    refine tt_gI (pc := 51) rw_215_51 (g_o hG rfl) (v := (M.2.1 77 8)) rfl ?_
    refine to_c (pc := 54) rw_215_54 (x := (1 : Int32)) rfl rfl ?_
    refine b_cne (pc := 55) rw_215_55 (A := (M.2.1 77 8).toInt) (B := 1) rfl rfl (fun h11 => ?_) (fun h11 => ?_)
    · refine to_an (pc := 85) rw_215_85 rfl ?_
      refine to_c (pc := 86) rw_215_86 (x := (1 : Int32)) rfl rfl ?_
      refine s_v (pc := 87) rw_215_87 (dp0 hd (by decide)) (ls0 := [.ref 77, .int (1 : Int32)]) rfl (Nat.le_of_ble_eq_true rfl) (Nat.le_of_ble_eq_true rfl) rfl (to_rc rfl rfl rfl (g_o hG rfl)) rfl ?_
      refine to_an (pc := 0) rw_152_0 rfl ?_
      refine to_in (pc := 1) rw_152_1 rfl ?_
      refine s_pI (pc := 2) rw_152_2 hG rfl (fun M13 W12 => ?_)
      have hG14 := g_wf hG W12 rfl rfl (by decide)
      have F15 := FR.w F0 W12 (show 77 = 77 ∧ (4 = 4 ∨ 4 = 5 ∨ 7 ≤ 4 ∧ 4 ≤ 10) ∨ 77 = 77 ∧ (4 = 44 ∨ 4 = 52) ∨ 101 ≤ 77 ∧ 77 ≤ 108 by decide)
      refine to_an (pc := 5) rw_152_5 rfl ?_
      refine to_an (pc := 6) rw_152_6 rfl ?_
      have c_16 : M13.2.1 77 10 = (M.2.1 77 10) := (W_n W12 (by decide) rfl)
      refine tt_gI (pc := 7) rw_152_7 (g_o hG14 rfl) (v := (M.2.1 77 10)) c_16 ?_
      refine s_pI (pc := 10) rw_152_10 hG14 rfl (fun M18 W17 => ?_)
      have hG19 := g_wf hG14 W17 rfl rfl (by decide)
      have F20 := FR.w F15 W17 (show 77 = 77 ∧ (5 = 4 ∨ 5 = 5 ∨ 7 ≤ 5 ∧ 5 ≤ 10) ∨ 77 = 77 ∧ (5 = 44 ∨ 5 = 52) ∨ 101 ≤ 77 ∧ 77 ≤ 108 by decide)
      refine to_c (pc := 13) rw_152_13 (x := (0 : Int32)) rfl rfl ?_
      refine s_r1 (pc := 14) rw_152_14 (A := 0) rfl (by decide) ?_
      refine s_r1 (pc := 90) rw_215_90 (A := 0) rfl (by decide) ?_
      have k_21 : (0 : Int32).toInt = 0 := rfl
      have c_22 : M18.2.1 77 4 = (1 : Int32) := (W_n W17 (by decide) (W_e W12))
      have k_23 : (1 : Int32).toInt = 1 := rfl
      have t_24 : (M18.2.1 77 4).toInt = (1 : Int32).toInt := congrArg Int32.toInt c_22
      have c_25 : M18.2.1 77 5 = (M.2.1 77 10) := (W_e W17)
      have t_26 : (M18.2.1 77 5).toInt = (M.2.1 77 10).toInt := congrArg Int32.toInt c_25
      exact h (0 : Int32) M18 hG19 F20 (by decide) (by decide) (fun z => by exfalso; omega) (fun z => by exfalso; omega) (fun _ => winl (by omega) (by omega) (w_nx (by omega) (by omega) (by omega) (by omega) (by omega)))
    · refine to_an (pc := 58) rw_215_58 rfl ?_
      refine tt_gI (pc := 59) rw_215_59 (g_o hG rfl) (v := (M.2.1 77 9)) rfl ?_
      refine to_c (pc := 62) rw_215_62 (x := (7 : Int32)) rfl rfl ?_
      refine b_ceq (pc := 64) rw_215_64 (A := (M.2.1 77 9).toInt) (B := 7) rfl rfl (fun h27 => ?_) (fun h27 => ?_)
      · have z_28 := RS_1 q1 (a := a) (by omega) (by omega)
        refine to_an (pc := 91) rw_215_91 rfl ?_
        refine tt_gI (pc := 92) rw_215_92 (g_o hG rfl) (v := (M.2.1 77 44)) rfl ?_
        refine to_c (pc := 95) rw_215_95 (x := (40 : Int32)) rfl rfl ?_
        refine b_cne (pc := 97) rw_215_97 (A := (M.2.1 77 44).toInt) (B := 40) rfl rfl (fun h29 => ?_) (fun h29 => ?_)
        · refine to_an (pc := 106) rw_215_106 rfl ?_
          refine tt_gI (pc := 107) rw_215_107 (g_o hG rfl) (v := (M.2.1 77 44)) rfl ?_
          refine to_isn (pc := 110) rw_215_110 (ls2 := [.ref 77, .int (M.2.1 77 44)]) rfl rfl ?_
          refine to_an (pc := 111) rw_215_111 rfl ?_
          refine s_gR (pc := 112) rw_215_112 hG rfl (v := 101) rfl ?_
          refine to_in (pc := 115) rw_215_115 rfl ?_
          refine to_an (pc := 116) rw_215_116 rfl ?_
          refine tt_gI (pc := 117) rw_215_117 (g_o hG rfl) (v := (M.2.1 77 9)) rfl ?_
          refine to_c (pc := 120) rw_215_120 (x := (7 : Int32)) rfl rfl ?_
          refine b_cne_f (pc := 122) rw_215_122 (A := (M.2.1 77 9).toInt) (B := 7) rfl rfl (by omega) ?_
          refine to_c (pc := 125) rw_215_125 (x := (0 : Int32)) rfl rfl ?_
          refine to_go (pc := 126) rw_215_126 ?_
          refine s_ias (pc := 143) rw_215_143 hG rfl (n := 40) rfl (A := (M.2.1 77 44).toInt) rfl (by omega) (by omega) (fun M31 W30 => ?_)
          have hG32 := g_w hG W30 (A := 0) rfl (lo := 0) (hi := 2) rfl rfl (by omega) (by decide)
          have F33 := FR.w F0 W30 (show 101 = 77 ∧ (((M.2.1 77 44).toInt).toNat = 4 ∨ ((M.2.1 77 44).toInt).toNat = 5 ∨ 7 ≤ ((M.2.1 77 44).toInt).toNat ∧ ((M.2.1 77 44).toInt).toNat ≤ 10) ∨ 101 = 77 ∧ (((M.2.1 77 44).toInt).toNat = 44 ∨ ((M.2.1 77 44).toInt).toNat = 52) ∨ 101 ≤ 101 ∧ 101 ≤ 108 by omega)
          refine to_an (pc := 144) rw_215_144 rfl ?_
          refine to_dupr (pc := 145) rw_215_145 ?_
          have c_34 : M31.2.1 77 44 = (M.2.1 77 44) := (W_n W30 (fun z => absurd z.1 (by decide)) rfl)
          refine tt_gI (pc := 146) rw_215_146 (g_o hG32 rfl) (v := (M.2.1 77 44)) c_34 ?_
          refine to_c (pc := 149) rw_215_149 (x := (1 : Int32)) rfl rfl ?_
          refine s_add (pc := 150) rw_215_150 (A := (M.2.1 77 44).toInt) (B := 1) rfl rfl (by omega) (fun v35 e36 => ?_)
          refine s_pI (pc := 151) rw_215_151 hG32 rfl (fun M38 W37 => ?_)
          have hG39 := g_w hG32 W37 (A := v35.toInt) rfl (lo := 0) (hi := 40) rfl rfl (by omega) (by decide)
          have F40 := FR.w F33 W37 (show 77 = 77 ∧ (44 = 4 ∨ 44 = 5 ∨ 7 ≤ 44 ∧ 44 ≤ 10) ∨ 77 = 77 ∧ (44 = 44 ∨ 44 = 52) ∨ 101 ≤ 77 ∧ 77 ≤ 108 by decide)
          refine to_an (pc := 154) rw_215_154 rfl ?_
          refine s_v (pc := 155) rw_215_155 (dp0 hd (by decide)) (ls0 := [.ref 77]) rfl (Nat.le_of_ble_eq_true rfl) (Nat.le_of_ble_eq_true rfl) rfl (to_rc rfl rfl rfl (g_o hG39 rfl)) rfl ?_
          have c_41 : M38.2.1 77 7 = (M.2.1 77 7) := (W_n W37 (by decide) (W_n W30 (fun z => absurd z.1 (by decide)) rfl))
          have t_42 : (M38.2.1 77 7).toInt = (M.2.1 77 7).toInt := congrArg Int32.toInt c_41
          have c_43 : M38.2.1 77 6 = (M.2.1 77 6) := (W_n W37 (by decide) (W_n W30 (fun z => absurd z.1 (by decide)) rfl))
          have t_44 : (M38.2.1 77 6).toInt = (M.2.1 77 6).toInt := congrArg Int32.toInt c_43
          have c_45 : M38.2.1 77 10 = (M.2.1 77 10) := (W_n W37 (by decide) (W_n W30 (fun z => absurd z.1 (by decide)) rfl))
          have t_46 : (M38.2.1 77 10).toInt = (M.2.1 77 10).toInt := congrArg Int32.toInt c_45
          have j_47 := (RS_f (fun a i z => W_n W37 (tg_188 a i z) rfl) (RS_f (fun a i z => W_n W30 (tg_189 a i _ z) rfl) q1))
          have z_48 := RS_b j_47 (a := a) (by omega)
          have j_49 := (TR_f (fun a i z => W_n W37 (tg_190 a i z) rfl) (TR_f (fun a i z => W_n W30 (tg_191 a i _ z) rfl) q5))
          have j_50 := (W9_f (fun a i z => W_n W37 (tg_192 a i z) rfl) (W9_f (fun a i z => W_n W30 (tg_193 a i _ z) rfl) q6))
          refine E_156 hX (dp1 hd (by decide)) hG39 (by omega) (by omega) (by omega) (by omega) j_49 j_50  (fun M57 hG52 F51 p_53 p_54 p_55 p_56 => ?_)
          have F58 := FR.c F40 F51 tg_186
          have b_59 := g_b hG52 (a := 77) (i := 7) (lo := 0) (hi := 500) rfl rfl
          have c_60 : M57.2.1 77 6 = (M.2.1 77 6) := (F_n F51 (show ¬ (77 = 77 ∧ 7 ≤ 6 ∧ 6 ≤ 10) by decide) c_43)
          have t_61 : (M57.2.1 77 6).toInt = (M.2.1 77 6).toInt := congrArg Int32.toInt c_60
          have b_62 := g_b hG52 (a := 77) (i := 8) (lo := 0) (hi := 5) rfl rfl
          have b_63 := g_b hG52 (a := 77) (i := 10) (lo := 0) (hi := 500) rfl rfl
          have z_64 := RS_s p_56.2 (a := a) (by omega)
          refine to_an (pc := 158) rw_215_158 rfl ?_
          refine s_gR (pc := 159) rw_215_159 hG52 rfl (v := 101) rfl ?_
          refine to_in (pc := 162) rw_215_162 rfl ?_
          refine s_ialk (pc := 163) rw_215_163 hG52 rfl (n := 40) rfl rfl (A := (M.2.1 77 44).toInt) rfl (by omega) (by omega) (v := (0 : Int32)) (F_n F51 (show ¬ (101 = 77 ∧ 7 ≤ ((M.2.1 77 44).toInt).toNat ∧ ((M.2.1 77 44).toInt).toNat ≤ 10) by omega) (W_n W37 (by omega) (W_e W30))) ?_
          refine b_ine_f (pc := 164) rw_215_164 (A := 0) rfl (by decide) ?_
          refine to_an (pc := 167) rw_215_167 rfl ?_
          refine to_in (pc := 168) rw_215_168 rfl ?_
          refine s_v (pc := 169) rw_215_169 (dp0 hd (by decide)) (ls0 := [.ref 77, .int (M.2.1 77 44)]) rfl (Nat.le_of_ble_eq_true rfl) (Nat.le_of_ble_eq_true rfl) rfl (to_rc rfl rfl rfl (g_o hG52 rfl)) rfl ?_
          have j_67 := (TR_f (tg_47 F51) j_49)
          have j_68 := (W9_f (tg_48 F51) j_50)
          have j_69 := (PLk_f (tg_156 F51) (PLk_f (fun a i z => W_n W37 (tg_194 a i z) rfl) (PLk_f (fun a i z => W_n W30 (tg_195 a i _ z) rfl) q7)))
          refine E_213 hX (dp1 hd (by decide)) hG52 (by omega) (by omega) p_56.1 (by omega) (by omega) (by omega) j_67 j_68 j_69 (e := (M.2.1 77 44)) (t := t) (nn := nn) (a := (x_ns t nn a)) (sg := sg) (n9 := (n9 + 1)) (op := op) (A9 := (x_k1 A9 n9 0)) (fun r70 M79 hG72 F71 p_73 p_74 p_75 p_76 p_77 p_78 => ?_)
          have F80 := FR.c F58 F71 tg_187
          rcases (show r70.toInt = 0 ∨ r70.toInt = 1 by omega) with h81 | h81
          · skip
            have p_82 := p_78 (by omega)
            clear p_75 p_77 p_78
            have z_83 := (w_ps (by omega) (by omega) (by omega) (by omega) (by omega)).trans p_82
            refine s_r1 (pc := 172) rw_215_172 (A := r70.toInt) rfl (by omega) ?_
            exact h r70 M79 hG72 F80 (by omega) (by omega) (fun z => by exfalso; omega) (fun z => by exfalso; omega) (fun _ => winl (by omega) (by omega) z_83)
          · skip
            have p_84 := p_75 (by omega)
            have p_85 := p_77 (by omega)
            clear p_75 p_77 p_78
            have z_86 := (w_ps (by omega) (by omega) (by omega) (by omega) (by omega)).trans p_85
            refine s_r1 (pc := 172) rw_215_172 (A := r70.toInt) rfl (by omega) ?_
            have b_87 := g_b hG72 (a := 77) (i := 10) (lo := 0) (hi := 500) rfl rfl
            have c_88 : M79.2.1 77 44 = v35 := (F_n F71 (show ¬ (77 = 77 ∧ (44 = 4 ∨ 44 = 5 ∨ 7 ≤ 44 ∧ 44 ≤ 10) ∨ 102 ≤ 77 ∧ 77 ≤ 104 ∨ 77 = 106 ∨ 77 = 107) by decide) (F_n F51 (show ¬ (77 = 77 ∧ 7 ≤ 44 ∧ 44 ≤ 10) by decide) (W_e W37)))
            have t_89 : (M79.2.1 77 44).toInt = v35.toInt := congrArg Int32.toInt c_88
            have c_90 : M79.2.1 77 52 = (M.2.1 77 52) := (F_n F71 (show ¬ (77 = 77 ∧ (52 = 4 ∨ 52 = 5 ∨ 7 ≤ 52 ∧ 52 ≤ 10) ∨ 102 ≤ 77 ∧ 77 ≤ 104 ∨ 77 = 106 ∨ 77 = 107) by decide) (F_n F51 (show ¬ (77 = 77 ∧ 7 ≤ 52 ∧ 52 ≤ 10) by decide) (W_n W37 (by decide) (W_n W30 (fun z => absurd z.1 (by decide)) rfl))))
            have t_91 : (M79.2.1 77 52).toInt = (M.2.1 77 52).toInt := congrArg Int32.toInt c_90
            have k_92 : (0 : Int32).toInt = 0 := rfl
            exact h r70 M79 hG72 F80 (by omega) (by omega) (fun _ => p_84) (fun _ => WS_p (k := 0) (by decide) (by omega) q11 q12 q13 q14 (fun r i z z2 => by
                by_cases e : r = 101
                · subst e; exact (F_n F71 (show ¬ (101 = 77 ∧ (i = 4 ∨ i = 5 ∨ 7 ≤ i ∧ i ≤ 10) ∨ 102 ≤ 101 ∧ 101 ≤ 104 ∨ 101 = 106 ∨ 101 = 107) by omega) (F_n F51 (show ¬ (101 = 77 ∧ 7 ≤ i ∧ i ≤ 10) by omega) (W_n W37 (by omega) (W_n W30 (by omega) rfl))))
                · exact (p_76 r i (by omega) (by omega)).trans (F_n F51 (show ¬ (r = 77 ∧ 7 ≤ i ∧ i ≤ 10) by omega) (W_n W37 (by omega) (W_n W30 (by omega) rfl)))) (by rw [show n9.toNat = ((M.2.1 77 44).toInt).toNat by omega, show M79.2.1 101 ((M.2.1 77 44).toInt).toNat = (0 : Int32) from (F_n F71 (show ¬ (101 = 77 ∧ (((M.2.1 77 44).toInt).toNat = 4 ∨ ((M.2.1 77 44).toInt).toNat = 5 ∨ 7 ≤ ((M.2.1 77 44).toInt).toNat ∧ ((M.2.1 77 44).toInt).toNat ≤ 10) ∨ 102 ≤ 101 ∧ 101 ≤ 104 ∨ 101 = 106 ∨ 101 = 107) by omega) (F_n F51 (show ¬ (101 = 77 ∧ 7 ≤ ((M.2.1 77 44).toInt).toNat ∧ ((M.2.1 77 44).toInt).toNat ≤ 10) by omega) (W_n W37 (by omega) (W_e W30))))]; exact (show (0 : Int32).toInt = 0 by omega)) (fun r i z => (F_n F71 (show ¬ (r = 77 ∧ (i = 4 ∨ i = 5 ∨ 7 ≤ i ∧ i ≤ 10) ∨ 102 ≤ r ∧ r ≤ 104 ∨ r = 106 ∨ r = 107) by omega) (F_n F51 (show ¬ (r = 77 ∧ 7 ≤ i ∧ i ≤ 10) by omega) (W_n W37 (by omega) (W_n W30 (by omega) rfl))))) (by omega) (by omega) z_86) (fun z => by exfalso; omega)
        · refine to_an (pc := 100) rw_215_100 rfl ?_
          refine to_c (pc := 101) rw_215_101 (x := (2 : Int32)) rfl rfl ?_
          refine s_v (pc := 102) rw_215_102 (dp0 hd (by decide)) (ls0 := [.ref 77, .int (2 : Int32)]) rfl (Nat.le_of_ble_eq_true rfl) (Nat.le_of_ble_eq_true rfl) rfl (to_rc rfl rfl rfl (g_o hG rfl)) rfl ?_
          refine to_an (pc := 0) rw_152_0 rfl ?_
          refine to_in (pc := 1) rw_152_1 rfl ?_
          refine s_pI (pc := 2) rw_152_2 hG rfl (fun M94 W93 => ?_)
          have hG95 := g_wf hG W93 rfl rfl (by decide)
          have F96 := FR.w F0 W93 (show 77 = 77 ∧ (4 = 4 ∨ 4 = 5 ∨ 7 ≤ 4 ∧ 4 ≤ 10) ∨ 77 = 77 ∧ (4 = 44 ∨ 4 = 52) ∨ 101 ≤ 77 ∧ 77 ≤ 108 by decide)
          refine to_an (pc := 5) rw_152_5 rfl ?_
          refine to_an (pc := 6) rw_152_6 rfl ?_
          have c_97 : M94.2.1 77 10 = (M.2.1 77 10) := (W_n W93 (by decide) rfl)
          refine tt_gI (pc := 7) rw_152_7 (g_o hG95 rfl) (v := (M.2.1 77 10)) c_97 ?_
          refine s_pI (pc := 10) rw_152_10 hG95 rfl (fun M99 W98 => ?_)
          have hG100 := g_wf hG95 W98 rfl rfl (by decide)
          have F101 := FR.w F96 W98 (show 77 = 77 ∧ (5 = 4 ∨ 5 = 5 ∨ 7 ≤ 5 ∧ 5 ≤ 10) ∨ 77 = 77 ∧ (5 = 44 ∨ 5 = 52) ∨ 101 ≤ 77 ∧ 77 ≤ 108 by decide)
          refine to_c (pc := 13) rw_152_13 (x := (0 : Int32)) rfl rfl ?_
          refine s_r1 (pc := 14) rw_152_14 (A := 0) rfl (by decide) ?_
          refine s_r1 (pc := 105) rw_215_105 (A := 0) rfl (by decide) ?_
          have k_102 : (0 : Int32).toInt = 0 := rfl
          have c_103 : M99.2.1 77 4 = (2 : Int32) := (W_n W98 (by decide) (W_e W93))
          have k_104 : (2 : Int32).toInt = 2 := rfl
          have t_105 : (M99.2.1 77 4).toInt = (2 : Int32).toInt := congrArg Int32.toInt c_103
          have c_106 : M99.2.1 77 5 = (M.2.1 77 10) := (W_e W98)
          have t_107 : (M99.2.1 77 5).toInt = (M.2.1 77 10).toInt := congrArg Int32.toInt c_106
          exact h (0 : Int32) M99 hG100 F101 (by decide) (by decide) (fun z => by exfalso; omega) (fun z => by exfalso; omega) (fun _ => winl (by omega) (by omega) (w_40 (by omega) (by omega) (by omega) (by omega) (by omega)))
      · refine to_an (pc := 67) rw_215_67 rfl ?_
        refine tt_gI (pc := 68) rw_215_68 (g_o hG rfl) (v := (M.2.1 77 9)) rfl ?_
        refine to_c (pc := 71) rw_215_71 (x := (10 : Int32)) rfl rfl ?_
        refine b_ceq (pc := 73) rw_215_73 (A := (M.2.1 77 9).toInt) (B := 10) rfl rfl (fun h108 => ?_) (fun h108 => ?_)
        · have z_109 := RS_1 q1 (a := a) (by omega) (by omega)
          refine to_an (pc := 91) rw_215_91 rfl ?_
          refine tt_gI (pc := 92) rw_215_92 (g_o hG rfl) (v := (M.2.1 77 44)) rfl ?_
          refine to_c (pc := 95) rw_215_95 (x := (40 : Int32)) rfl rfl ?_
          refine b_cne (pc := 97) rw_215_97 (A := (M.2.1 77 44).toInt) (B := 40) rfl rfl (fun h110 => ?_) (fun h110 => ?_)
          · refine to_an (pc := 106) rw_215_106 rfl ?_
            refine tt_gI (pc := 107) rw_215_107 (g_o hG rfl) (v := (M.2.1 77 44)) rfl ?_
            refine to_isn (pc := 110) rw_215_110 (ls2 := [.ref 77, .int (M.2.1 77 44)]) rfl rfl ?_
            refine to_an (pc := 111) rw_215_111 rfl ?_
            refine s_gR (pc := 112) rw_215_112 hG rfl (v := 101) rfl ?_
            refine to_in (pc := 115) rw_215_115 rfl ?_
            refine to_an (pc := 116) rw_215_116 rfl ?_
            refine tt_gI (pc := 117) rw_215_117 (g_o hG rfl) (v := (M.2.1 77 9)) rfl ?_
            refine to_c (pc := 120) rw_215_120 (x := (7 : Int32)) rfl rfl ?_
            refine b_cne_t (pc := 122) rw_215_122 (A := (M.2.1 77 9).toInt) (B := 7) rfl rfl (by omega) ?_
            refine to_an (pc := 129) rw_215_129 rfl ?_
            refine tt_gI (pc := 130) rw_215_130 (g_o hG rfl) (v := (M.2.1 77 9)) rfl ?_
            refine to_c (pc := 133) rw_215_133 (x := (10 : Int32)) rfl rfl ?_
            refine b_cne_f (pc := 135) rw_215_135 (A := (M.2.1 77 9).toInt) (B := 10) rfl rfl (by omega) ?_
            refine to_c (pc := 138) rw_215_138 (x := (1 : Int32)) rfl rfl ?_
            refine to_go (pc := 139) rw_215_139 ?_
            refine s_ias (pc := 143) rw_215_143 hG rfl (n := 40) rfl (A := (M.2.1 77 44).toInt) rfl (by omega) (by omega) (fun M112 W111 => ?_)
            have hG113 := g_w hG W111 (A := 1) rfl (lo := 0) (hi := 2) rfl rfl (by omega) (by decide)
            have F114 := FR.w F0 W111 (show 101 = 77 ∧ (((M.2.1 77 44).toInt).toNat = 4 ∨ ((M.2.1 77 44).toInt).toNat = 5 ∨ 7 ≤ ((M.2.1 77 44).toInt).toNat ∧ ((M.2.1 77 44).toInt).toNat ≤ 10) ∨ 101 = 77 ∧ (((M.2.1 77 44).toInt).toNat = 44 ∨ ((M.2.1 77 44).toInt).toNat = 52) ∨ 101 ≤ 101 ∧ 101 ≤ 108 by omega)
            refine to_an (pc := 144) rw_215_144 rfl ?_
            refine to_dupr (pc := 145) rw_215_145 ?_
            have c_115 : M112.2.1 77 44 = (M.2.1 77 44) := (W_n W111 (fun z => absurd z.1 (by decide)) rfl)
            refine tt_gI (pc := 146) rw_215_146 (g_o hG113 rfl) (v := (M.2.1 77 44)) c_115 ?_
            refine to_c (pc := 149) rw_215_149 (x := (1 : Int32)) rfl rfl ?_
            refine s_add (pc := 150) rw_215_150 (A := (M.2.1 77 44).toInt) (B := 1) rfl rfl (by omega) (fun v116 e117 => ?_)
            refine s_pI (pc := 151) rw_215_151 hG113 rfl (fun M119 W118 => ?_)
            have hG120 := g_w hG113 W118 (A := v116.toInt) rfl (lo := 0) (hi := 40) rfl rfl (by omega) (by decide)
            have F121 := FR.w F114 W118 (show 77 = 77 ∧ (44 = 4 ∨ 44 = 5 ∨ 7 ≤ 44 ∧ 44 ≤ 10) ∨ 77 = 77 ∧ (44 = 44 ∨ 44 = 52) ∨ 101 ≤ 77 ∧ 77 ≤ 108 by decide)
            refine to_an (pc := 154) rw_215_154 rfl ?_
            refine s_v (pc := 155) rw_215_155 (dp0 hd (by decide)) (ls0 := [.ref 77]) rfl (Nat.le_of_ble_eq_true rfl) (Nat.le_of_ble_eq_true rfl) rfl (to_rc rfl rfl rfl (g_o hG120 rfl)) rfl ?_
            have c_122 : M119.2.1 77 7 = (M.2.1 77 7) := (W_n W118 (by decide) (W_n W111 (fun z => absurd z.1 (by decide)) rfl))
            have t_123 : (M119.2.1 77 7).toInt = (M.2.1 77 7).toInt := congrArg Int32.toInt c_122
            have c_124 : M119.2.1 77 6 = (M.2.1 77 6) := (W_n W118 (by decide) (W_n W111 (fun z => absurd z.1 (by decide)) rfl))
            have t_125 : (M119.2.1 77 6).toInt = (M.2.1 77 6).toInt := congrArg Int32.toInt c_124
            have c_126 : M119.2.1 77 10 = (M.2.1 77 10) := (W_n W118 (by decide) (W_n W111 (fun z => absurd z.1 (by decide)) rfl))
            have t_127 : (M119.2.1 77 10).toInt = (M.2.1 77 10).toInt := congrArg Int32.toInt c_126
            have j_128 := (RS_f (fun a i z => W_n W118 (tg_188 a i z) rfl) (RS_f (fun a i z => W_n W111 (tg_189 a i _ z) rfl) q1))
            have z_129 := RS_b j_128 (a := a) (by omega)
            have j_130 := (TR_f (fun a i z => W_n W118 (tg_190 a i z) rfl) (TR_f (fun a i z => W_n W111 (tg_191 a i _ z) rfl) q5))
            have j_131 := (W9_f (fun a i z => W_n W118 (tg_192 a i z) rfl) (W9_f (fun a i z => W_n W111 (tg_193 a i _ z) rfl) q6))
            refine E_156 hX (dp1 hd (by decide)) hG120 (by omega) (by omega) (by omega) (by omega) j_130 j_131  (fun M138 hG133 F132 p_134 p_135 p_136 p_137 => ?_)
            have F139 := FR.c F121 F132 tg_186
            have b_140 := g_b hG133 (a := 77) (i := 7) (lo := 0) (hi := 500) rfl rfl
            have c_141 : M138.2.1 77 6 = (M.2.1 77 6) := (F_n F132 (show ¬ (77 = 77 ∧ 7 ≤ 6 ∧ 6 ≤ 10) by decide) c_124)
            have t_142 : (M138.2.1 77 6).toInt = (M.2.1 77 6).toInt := congrArg Int32.toInt c_141
            have b_143 := g_b hG133 (a := 77) (i := 8) (lo := 0) (hi := 5) rfl rfl
            have b_144 := g_b hG133 (a := 77) (i := 10) (lo := 0) (hi := 500) rfl rfl
            have z_145 := RS_s p_137.2 (a := a) (by omega)
            refine to_an (pc := 158) rw_215_158 rfl ?_
            refine s_gR (pc := 159) rw_215_159 hG133 rfl (v := 101) rfl ?_
            refine to_in (pc := 162) rw_215_162 rfl ?_
            refine s_ialk (pc := 163) rw_215_163 hG133 rfl (n := 40) rfl rfl (A := (M.2.1 77 44).toInt) rfl (by omega) (by omega) (v := (1 : Int32)) (F_n F132 (show ¬ (101 = 77 ∧ 7 ≤ ((M.2.1 77 44).toInt).toNat ∧ ((M.2.1 77 44).toInt).toNat ≤ 10) by omega) (W_n W118 (by omega) (W_e W111))) ?_
            refine b_ine_t (pc := 164) rw_215_164 (A := 1) rfl (by decide) ?_
            refine to_an (pc := 173) rw_215_173 rfl ?_
            refine s_gR (pc := 174) rw_215_174 hG133 rfl (v := 101) rfl ?_
            refine to_in (pc := 177) rw_215_177 rfl ?_
            refine s_ialk (pc := 178) rw_215_178 hG133 rfl (n := 40) rfl rfl (A := (M.2.1 77 44).toInt) rfl (by omega) (by omega) (v := (1 : Int32)) (F_n F132 (show ¬ (101 = 77 ∧ 7 ≤ ((M.2.1 77 44).toInt).toNat ∧ ((M.2.1 77 44).toInt).toNat ≤ 10) by omega) (W_n W118 (by omega) (W_e W111))) ?_
            refine to_c (pc := 179) rw_215_179 (x := (1 : Int32)) rfl rfl ?_
            refine b_cne_f (pc := 180) rw_215_180 (A := 1) (B := 1) rfl rfl (by decide) ?_
            refine to_an (pc := 183) rw_215_183 rfl ?_
            refine to_in (pc := 184) rw_215_184 rfl ?_
            refine s_v (pc := 185) rw_215_185 (dp0 hd (by decide)) (ls0 := [.ref 77, .int (M.2.1 77 44)]) rfl (Nat.le_of_ble_eq_true rfl) (Nat.le_of_ble_eq_true rfl) rfl (to_rc rfl rfl rfl (g_o hG133 rfl)) rfl ?_
            have j_150 := (TR_f (tg_47 F132) j_130)
            have j_151 := (W9_f (tg_48 F132) j_131)
            refine E_214 hX (dp1 hd (by decide)) hG133 (by omega) (by omega) p_137.1 (by omega) (by omega) (by omega) j_150 j_151 (e := (M.2.1 77 44)) (t := t) (nn := nn) (a := (x_ns t nn a)) (fun r152 M161 hG154 F153 p_155 p_156 p_157 p_158 p_159 p_160 => ?_)
            have F162 := FR.c F139 F153 tg_187
            rcases (show r152.toInt = 0 ∨ r152.toInt = 1 by omega) with h163 | h163
            · skip
              have p_164 := p_160 (by omega)
              clear p_157 p_159 p_160
              have z_165 := (w_jn (by omega) (by omega) (by omega) (by omega) (by omega)).trans (p_164 (x_ww t nn sg 0 (n9 + 1) op (x_k1 A9 n9 1)))
              refine s_r1 (pc := 188) rw_215_188 (A := r152.toInt) rfl (by omega) ?_
              exact h r152 M161 hG154 F162 (by omega) (by omega) (fun z => by exfalso; omega) (fun z => by exfalso; omega) (fun _ => winl (by omega) (by omega) z_165)
            · skip
              have p_166 := p_157 (by omega)
              have p_167 := p_159 (by omega)
              clear p_157 p_159 p_160
              have z_168 := (w_jn (by omega) (by omega) (by omega) (by omega) (by omega)).trans (p_167 (x_ww t nn sg 0 (n9 + 1) op (x_k1 A9 n9 1)))
              refine s_r1 (pc := 188) rw_215_188 (A := r152.toInt) rfl (by omega) ?_
              have b_169 := g_b hG154 (a := 77) (i := 10) (lo := 0) (hi := 500) rfl rfl
              have c_170 : M161.2.1 77 44 = v116 := (F_n F153 (show ¬ (77 = 77 ∧ (44 = 4 ∨ 44 = 5 ∨ 7 ≤ 44 ∧ 44 ≤ 10) ∨ 102 ≤ 77 ∧ 77 ≤ 104 ∨ 77 = 106 ∨ 77 = 107) by decide) (F_n F132 (show ¬ (77 = 77 ∧ 7 ≤ 44 ∧ 44 ≤ 10) by decide) (W_e W118)))
              have t_171 : (M161.2.1 77 44).toInt = v116.toInt := congrArg Int32.toInt c_170
              have c_172 : M161.2.1 77 52 = (M.2.1 77 52) := (F_n F153 (show ¬ (77 = 77 ∧ (52 = 4 ∨ 52 = 5 ∨ 7 ≤ 52 ∧ 52 ≤ 10) ∨ 102 ≤ 77 ∧ 77 ≤ 104 ∨ 77 = 106 ∨ 77 = 107) by decide) (F_n F132 (show ¬ (77 = 77 ∧ 7 ≤ 52 ∧ 52 ≤ 10) by decide) (W_n W118 (by decide) (W_n W111 (fun z => absurd z.1 (by decide)) rfl))))
              have t_173 : (M161.2.1 77 52).toInt = (M.2.1 77 52).toInt := congrArg Int32.toInt c_172
              have k_174 : (1 : Int32).toInt = 1 := rfl
              exact h r152 M161 hG154 F162 (by omega) (by omega) (fun _ => p_166) (fun _ => WS_p (k := 1) (by decide) (by omega) q11 q12 q13 q14 (fun r i z z2 => by
                  by_cases e : r = 101
                  · subst e; exact (F_n F153 (show ¬ (101 = 77 ∧ (i = 4 ∨ i = 5 ∨ 7 ≤ i ∧ i ≤ 10) ∨ 102 ≤ 101 ∧ 101 ≤ 104 ∨ 101 = 106 ∨ 101 = 107) by omega) (F_n F132 (show ¬ (101 = 77 ∧ 7 ≤ i ∧ i ≤ 10) by omega) (W_n W118 (by omega) (W_n W111 (by omega) rfl))))
                  · exact (p_158 r i (by omega) (by omega)).trans (F_n F132 (show ¬ (r = 77 ∧ 7 ≤ i ∧ i ≤ 10) by omega) (W_n W118 (by omega) (W_n W111 (by omega) rfl)))) (by rw [show n9.toNat = ((M.2.1 77 44).toInt).toNat by omega, show M161.2.1 101 ((M.2.1 77 44).toInt).toNat = (1 : Int32) from (F_n F153 (show ¬ (101 = 77 ∧ (((M.2.1 77 44).toInt).toNat = 4 ∨ ((M.2.1 77 44).toInt).toNat = 5 ∨ 7 ≤ ((M.2.1 77 44).toInt).toNat ∧ ((M.2.1 77 44).toInt).toNat ≤ 10) ∨ 102 ≤ 101 ∧ 101 ≤ 104 ∨ 101 = 106 ∨ 101 = 107) by omega) (F_n F132 (show ¬ (101 = 77 ∧ 7 ≤ ((M.2.1 77 44).toInt).toNat ∧ ((M.2.1 77 44).toInt).toNat ≤ 10) by omega) (W_n W118 (by omega) (W_e W111))))]; exact (show (1 : Int32).toInt = 1 by omega)) (fun r i z => (F_n F153 (show ¬ (r = 77 ∧ (i = 4 ∨ i = 5 ∨ 7 ≤ i ∧ i ≤ 10) ∨ 102 ≤ r ∧ r ≤ 104 ∨ r = 106 ∨ r = 107) by omega) (F_n F132 (show ¬ (r = 77 ∧ 7 ≤ i ∧ i ≤ 10) by omega) (W_n W118 (by omega) (W_n W111 (by omega) rfl))))) (by omega) (by omega) z_168) (fun z => by exfalso; omega)
          · refine to_an (pc := 100) rw_215_100 rfl ?_
            refine to_c (pc := 101) rw_215_101 (x := (2 : Int32)) rfl rfl ?_
            refine s_v (pc := 102) rw_215_102 (dp0 hd (by decide)) (ls0 := [.ref 77, .int (2 : Int32)]) rfl (Nat.le_of_ble_eq_true rfl) (Nat.le_of_ble_eq_true rfl) rfl (to_rc rfl rfl rfl (g_o hG rfl)) rfl ?_
            refine to_an (pc := 0) rw_152_0 rfl ?_
            refine to_in (pc := 1) rw_152_1 rfl ?_
            refine s_pI (pc := 2) rw_152_2 hG rfl (fun M176 W175 => ?_)
            have hG177 := g_wf hG W175 rfl rfl (by decide)
            have F178 := FR.w F0 W175 (show 77 = 77 ∧ (4 = 4 ∨ 4 = 5 ∨ 7 ≤ 4 ∧ 4 ≤ 10) ∨ 77 = 77 ∧ (4 = 44 ∨ 4 = 52) ∨ 101 ≤ 77 ∧ 77 ≤ 108 by decide)
            refine to_an (pc := 5) rw_152_5 rfl ?_
            refine to_an (pc := 6) rw_152_6 rfl ?_
            have c_179 : M176.2.1 77 10 = (M.2.1 77 10) := (W_n W175 (by decide) rfl)
            refine tt_gI (pc := 7) rw_152_7 (g_o hG177 rfl) (v := (M.2.1 77 10)) c_179 ?_
            refine s_pI (pc := 10) rw_152_10 hG177 rfl (fun M181 W180 => ?_)
            have hG182 := g_wf hG177 W180 rfl rfl (by decide)
            have F183 := FR.w F178 W180 (show 77 = 77 ∧ (5 = 4 ∨ 5 = 5 ∨ 7 ≤ 5 ∧ 5 ≤ 10) ∨ 77 = 77 ∧ (5 = 44 ∨ 5 = 52) ∨ 101 ≤ 77 ∧ 77 ≤ 108 by decide)
            refine to_c (pc := 13) rw_152_13 (x := (0 : Int32)) rfl rfl ?_
            refine s_r1 (pc := 14) rw_152_14 (A := 0) rfl (by decide) ?_
            refine s_r1 (pc := 105) rw_215_105 (A := 0) rfl (by decide) ?_
            have k_184 : (0 : Int32).toInt = 0 := rfl
            have c_185 : M181.2.1 77 4 = (2 : Int32) := (W_n W180 (by decide) (W_e W175))
            have k_186 : (2 : Int32).toInt = 2 := rfl
            have t_187 : (M181.2.1 77 4).toInt = (2 : Int32).toInt := congrArg Int32.toInt c_185
            have c_188 : M181.2.1 77 5 = (M.2.1 77 10) := (W_e W180)
            have t_189 : (M181.2.1 77 5).toInt = (M.2.1 77 10).toInt := congrArg Int32.toInt c_188
            exact h (0 : Int32) M181 hG182 F183 (by decide) (by decide) (fun z => by exfalso; omega) (fun z => by exfalso; omega) (fun _ => winl (by omega) (by omega) (w_40 (by omega) (by omega) (by omega) (by omega) (by omega)))
        · refine to_an (pc := 76) rw_215_76 rfl ?_
          refine tt_gI (pc := 77) rw_215_77 (g_o hG rfl) (v := (M.2.1 77 9)) rfl ?_
          refine to_c (pc := 80) rw_215_80 (x := (11 : Int32)) rfl rfl ?_
          refine b_ceq (pc := 82) rw_215_82 (A := (M.2.1 77 9).toInt) (B := 11) rfl rfl (fun h190 => ?_) (fun h190 => ?_)
          · have z_191 := RS_1 q1 (a := a) (by omega) (by omega)
            refine to_an (pc := 91) rw_215_91 rfl ?_
            refine tt_gI (pc := 92) rw_215_92 (g_o hG rfl) (v := (M.2.1 77 44)) rfl ?_
            refine to_c (pc := 95) rw_215_95 (x := (40 : Int32)) rfl rfl ?_
            refine b_cne (pc := 97) rw_215_97 (A := (M.2.1 77 44).toInt) (B := 40) rfl rfl (fun h192 => ?_) (fun h192 => ?_)
            · refine to_an (pc := 106) rw_215_106 rfl ?_
              refine tt_gI (pc := 107) rw_215_107 (g_o hG rfl) (v := (M.2.1 77 44)) rfl ?_
              refine to_isn (pc := 110) rw_215_110 (ls2 := [.ref 77, .int (M.2.1 77 44)]) rfl rfl ?_
              refine to_an (pc := 111) rw_215_111 rfl ?_
              refine s_gR (pc := 112) rw_215_112 hG rfl (v := 101) rfl ?_
              refine to_in (pc := 115) rw_215_115 rfl ?_
              refine to_an (pc := 116) rw_215_116 rfl ?_
              refine tt_gI (pc := 117) rw_215_117 (g_o hG rfl) (v := (M.2.1 77 9)) rfl ?_
              refine to_c (pc := 120) rw_215_120 (x := (7 : Int32)) rfl rfl ?_
              refine b_cne_t (pc := 122) rw_215_122 (A := (M.2.1 77 9).toInt) (B := 7) rfl rfl (by omega) ?_
              refine to_an (pc := 129) rw_215_129 rfl ?_
              refine tt_gI (pc := 130) rw_215_130 (g_o hG rfl) (v := (M.2.1 77 9)) rfl ?_
              refine to_c (pc := 133) rw_215_133 (x := (10 : Int32)) rfl rfl ?_
              refine b_cne_t (pc := 135) rw_215_135 (A := (M.2.1 77 9).toInt) (B := 10) rfl rfl (by omega) ?_
              refine to_c (pc := 142) rw_215_142 (x := (2 : Int32)) rfl rfl ?_
              refine s_ias (pc := 143) rw_215_143 hG rfl (n := 40) rfl (A := (M.2.1 77 44).toInt) rfl (by omega) (by omega) (fun M194 W193 => ?_)
              have hG195 := g_w hG W193 (A := 2) rfl (lo := 0) (hi := 2) rfl rfl (by omega) (by decide)
              have F196 := FR.w F0 W193 (show 101 = 77 ∧ (((M.2.1 77 44).toInt).toNat = 4 ∨ ((M.2.1 77 44).toInt).toNat = 5 ∨ 7 ≤ ((M.2.1 77 44).toInt).toNat ∧ ((M.2.1 77 44).toInt).toNat ≤ 10) ∨ 101 = 77 ∧ (((M.2.1 77 44).toInt).toNat = 44 ∨ ((M.2.1 77 44).toInt).toNat = 52) ∨ 101 ≤ 101 ∧ 101 ≤ 108 by omega)
              refine to_an (pc := 144) rw_215_144 rfl ?_
              refine to_dupr (pc := 145) rw_215_145 ?_
              have c_197 : M194.2.1 77 44 = (M.2.1 77 44) := (W_n W193 (fun z => absurd z.1 (by decide)) rfl)
              refine tt_gI (pc := 146) rw_215_146 (g_o hG195 rfl) (v := (M.2.1 77 44)) c_197 ?_
              refine to_c (pc := 149) rw_215_149 (x := (1 : Int32)) rfl rfl ?_
              refine s_add (pc := 150) rw_215_150 (A := (M.2.1 77 44).toInt) (B := 1) rfl rfl (by omega) (fun v198 e199 => ?_)
              refine s_pI (pc := 151) rw_215_151 hG195 rfl (fun M201 W200 => ?_)
              have hG202 := g_w hG195 W200 (A := v198.toInt) rfl (lo := 0) (hi := 40) rfl rfl (by omega) (by decide)
              have F203 := FR.w F196 W200 (show 77 = 77 ∧ (44 = 4 ∨ 44 = 5 ∨ 7 ≤ 44 ∧ 44 ≤ 10) ∨ 77 = 77 ∧ (44 = 44 ∨ 44 = 52) ∨ 101 ≤ 77 ∧ 77 ≤ 108 by decide)
              refine to_an (pc := 154) rw_215_154 rfl ?_
              refine s_v (pc := 155) rw_215_155 (dp0 hd (by decide)) (ls0 := [.ref 77]) rfl (Nat.le_of_ble_eq_true rfl) (Nat.le_of_ble_eq_true rfl) rfl (to_rc rfl rfl rfl (g_o hG202 rfl)) rfl ?_
              have c_204 : M201.2.1 77 7 = (M.2.1 77 7) := (W_n W200 (by decide) (W_n W193 (fun z => absurd z.1 (by decide)) rfl))
              have t_205 : (M201.2.1 77 7).toInt = (M.2.1 77 7).toInt := congrArg Int32.toInt c_204
              have c_206 : M201.2.1 77 6 = (M.2.1 77 6) := (W_n W200 (by decide) (W_n W193 (fun z => absurd z.1 (by decide)) rfl))
              have t_207 : (M201.2.1 77 6).toInt = (M.2.1 77 6).toInt := congrArg Int32.toInt c_206
              have c_208 : M201.2.1 77 10 = (M.2.1 77 10) := (W_n W200 (by decide) (W_n W193 (fun z => absurd z.1 (by decide)) rfl))
              have t_209 : (M201.2.1 77 10).toInt = (M.2.1 77 10).toInt := congrArg Int32.toInt c_208
              have j_210 := (RS_f (fun a i z => W_n W200 (tg_188 a i z) rfl) (RS_f (fun a i z => W_n W193 (tg_189 a i _ z) rfl) q1))
              have z_211 := RS_b j_210 (a := a) (by omega)
              have j_212 := (TR_f (fun a i z => W_n W200 (tg_190 a i z) rfl) (TR_f (fun a i z => W_n W193 (tg_191 a i _ z) rfl) q5))
              have j_213 := (W9_f (fun a i z => W_n W200 (tg_192 a i z) rfl) (W9_f (fun a i z => W_n W193 (tg_193 a i _ z) rfl) q6))
              refine E_156 hX (dp1 hd (by decide)) hG202 (by omega) (by omega) (by omega) (by omega) j_212 j_213  (fun M220 hG215 F214 p_216 p_217 p_218 p_219 => ?_)
              have F221 := FR.c F203 F214 tg_186
              have b_222 := g_b hG215 (a := 77) (i := 7) (lo := 0) (hi := 500) rfl rfl
              have c_223 : M220.2.1 77 6 = (M.2.1 77 6) := (F_n F214 (show ¬ (77 = 77 ∧ 7 ≤ 6 ∧ 6 ≤ 10) by decide) c_206)
              have t_224 : (M220.2.1 77 6).toInt = (M.2.1 77 6).toInt := congrArg Int32.toInt c_223
              have b_225 := g_b hG215 (a := 77) (i := 8) (lo := 0) (hi := 5) rfl rfl
              have b_226 := g_b hG215 (a := 77) (i := 10) (lo := 0) (hi := 500) rfl rfl
              have z_227 := RS_s p_219.2 (a := a) (by omega)
              refine to_an (pc := 158) rw_215_158 rfl ?_
              refine s_gR (pc := 159) rw_215_159 hG215 rfl (v := 101) rfl ?_
              refine to_in (pc := 162) rw_215_162 rfl ?_
              refine s_ialk (pc := 163) rw_215_163 hG215 rfl (n := 40) rfl rfl (A := (M.2.1 77 44).toInt) rfl (by omega) (by omega) (v := (2 : Int32)) (F_n F214 (show ¬ (101 = 77 ∧ 7 ≤ ((M.2.1 77 44).toInt).toNat ∧ ((M.2.1 77 44).toInt).toNat ≤ 10) by omega) (W_n W200 (by omega) (W_e W193))) ?_
              refine b_ine_t (pc := 164) rw_215_164 (A := 2) rfl (by decide) ?_
              refine to_an (pc := 173) rw_215_173 rfl ?_
              refine s_gR (pc := 174) rw_215_174 hG215 rfl (v := 101) rfl ?_
              refine to_in (pc := 177) rw_215_177 rfl ?_
              refine s_ialk (pc := 178) rw_215_178 hG215 rfl (n := 40) rfl rfl (A := (M.2.1 77 44).toInt) rfl (by omega) (by omega) (v := (2 : Int32)) (F_n F214 (show ¬ (101 = 77 ∧ 7 ≤ ((M.2.1 77 44).toInt).toNat ∧ ((M.2.1 77 44).toInt).toNat ≤ 10) by omega) (W_n W200 (by omega) (W_e W193))) ?_
              refine to_c (pc := 179) rw_215_179 (x := (1 : Int32)) rfl rfl ?_
              refine b_cne_t (pc := 180) rw_215_180 (A := 2) (B := 1) rfl rfl (by decide) ?_
              have z_232 := RS_k p_219.1 (a := (x_ns t nn a)) (by omega)
              refine to_an (pc := 189) rw_215_189 rfl ?_
              refine to_c (pc := 190) rw_215_190 (x := (0 : Int32)) rfl rfl ?_
              refine to_c (pc := 191) rw_215_191 (x := (99 : Int32)) rfl rfl ?_
              refine s_v (pc := 193) rw_215_193 (dp0 hd (by decide)) (ls0 := [.ref 77, .int (0 : Int32), .int (99 : Int32)]) rfl (Nat.le_of_ble_eq_true rfl) (Nat.le_of_ble_eq_true rfl) rfl (to_rc rfl rfl rfl (g_o hG215 rfl)) rfl ?_
              refine to_an (pc := 0) rw_162_0 rfl ?_
              refine tt_gI (pc := 1) rw_162_1 (g_o hG215 rfl) (v := (M220.2.1 77 8)) rfl ?_
              refine to_c (pc := 4) rw_162_4 (x := (3 : Int32)) rfl rfl ?_
              refine b_ceq (pc := 5) rw_162_5 (A := (M220.2.1 77 8).toInt) (B := 3) rfl rfl (fun h233 => ?_) (fun h233 => ?_)
              · refine to_an (pc := 14) rw_162_14 rfl ?_
                refine tt_gI (pc := 15) rw_162_15 (g_o hG215 rfl) (v := (M220.2.1 77 9)) rfl ?_
                refine to_in (pc := 18) rw_162_18 rfl ?_
                refine b_clt (pc := 19) rw_162_19 (A := (M220.2.1 77 9).toInt) (B := 0) rfl rfl (fun h234 => ?_) (fun h234 => ?_)
                · refine to_an (pc := 30) rw_162_30 rfl ?_
                  refine to_c (pc := 31) rw_162_31 (x := (2 : Int32)) rfl rfl ?_
                  refine s_v (pc := 32) rw_162_32 (dp1 hd (by decide)) (ls0 := [.ref 77, .int (2 : Int32)]) rfl (Nat.le_of_ble_eq_true rfl) (Nat.le_of_ble_eq_true rfl) rfl (to_rc rfl rfl rfl (g_o hG215 rfl)) rfl ?_
                  refine to_an (pc := 0) rw_152_0 rfl ?_
                  refine to_in (pc := 1) rw_152_1 rfl ?_
                  refine s_pI (pc := 2) rw_152_2 hG215 rfl (fun M236 W235 => ?_)
                  have hG237 := g_wf hG215 W235 rfl rfl (by decide)
                  have F238 := FR.w F221 W235 (show 77 = 77 ∧ (4 = 4 ∨ 4 = 5 ∨ 7 ≤ 4 ∧ 4 ≤ 10) ∨ 77 = 77 ∧ (4 = 44 ∨ 4 = 52) ∨ 101 ≤ 77 ∧ 77 ≤ 108 by decide)
                  refine to_an (pc := 5) rw_152_5 rfl ?_
                  refine to_an (pc := 6) rw_152_6 rfl ?_
                  have c_239 : M236.2.1 77 10 = (M220.2.1 77 10) := (W_n W235 (by decide) rfl)
                  refine tt_gI (pc := 7) rw_152_7 (g_o hG237 rfl) (v := (M220.2.1 77 10)) c_239 ?_
                  refine s_pI (pc := 10) rw_152_10 hG237 rfl (fun M241 W240 => ?_)
                  have hG242 := g_wf hG237 W240 rfl rfl (by decide)
                  have F243 := FR.w F238 W240 (show 77 = 77 ∧ (5 = 4 ∨ 5 = 5 ∨ 7 ≤ 5 ∧ 5 ≤ 10) ∨ 77 = 77 ∧ (5 = 44 ∨ 5 = 52) ∨ 101 ≤ 77 ∧ 77 ≤ 108 by decide)
                  refine to_c (pc := 13) rw_152_13 (x := (0 : Int32)) rfl rfl ?_
                  refine s_r1 (pc := 14) rw_152_14 (A := 0) rfl (by decide) ?_
                  refine b_ieq_t (pc := 35) rw_162_35 (A := 0) rfl (by decide) ?_
                  refine to_c (pc := 42) rw_162_42 (x := (0 : Int32)) rfl rfl ?_
                  refine s_r1 (pc := 43) rw_162_43 (A := 0) rfl (by decide) ?_
                  refine b_ine_f (pc := 196) rw_215_196 (A := 0) rfl (by decide) ?_
                  have c_244 : M241.2.1 77 4 = (2 : Int32) := (W_n W240 (by decide) (W_e W235))
                  have c_245 : M241.2.1 77 8 = (M220.2.1 77 8) := (W_n W240 (by decide) (W_n W235 (by decide) rfl))
                  have t_246 : (M241.2.1 77 8).toInt = (M220.2.1 77 8).toInt := congrArg Int32.toInt c_245
                  have c_247 : M241.2.1 77 9 = (M220.2.1 77 9) := (W_n W240 (by decide) (W_n W235 (by decide) rfl))
                  have t_248 : (M241.2.1 77 9).toInt = (M220.2.1 77 9).toInt := congrArg Int32.toInt c_247
                  have c_249 : M241.2.1 77 10 = (M220.2.1 77 10) := (W_n W240 (by decide) c_239)
                  have t_250 : (M241.2.1 77 10).toInt = (M220.2.1 77 10).toInt := congrArg Int32.toInt c_249
                  have j_251 := (RS_f (fun a i z => W_n W240 (tg_37 a i z) rfl) (RS_f (fun a i z => W_n W235 (tg_38 a i z) rfl) p_219.1))
                  have z_252 := RS_3x j_251 (a := (x_ns t nn a)) (m := 99) (by omega) (by omega) (by omega) (by omega)
                  refine to_c (pc := 199) rw_215_199 (x := (0 : Int32)) rfl rfl ?_
                  refine s_r1 (pc := 200) rw_215_200 (A := 0) rfl (by decide) ?_
                  have k_253 : (0 : Int32).toInt = 0 := rfl
                  have k_254 : (2 : Int32).toInt = 2 := rfl
                  have t_255 : (M241.2.1 77 4).toInt = (2 : Int32).toInt := congrArg Int32.toInt c_244
                  have c_256 : M241.2.1 77 5 = (M220.2.1 77 10) := (W_e W240)
                  have t_257 : (M241.2.1 77 5).toInt = (M220.2.1 77 10).toInt := congrArg Int32.toInt c_256
                  exact h (0 : Int32) M241 hG242 F243 (by decide) (by decide) (fun z => by exfalso; omega) (fun z => by exfalso; omega) (fun _ => winl (by omega) (by omega) ((w_ag (by omega) (by omega) (by omega) (by omega) (by omega)).trans (ag_2 (by omega) (by omega))))
                · refine to_an (pc := 22) rw_162_22 rfl ?_
                  refine tt_gI (pc := 23) rw_162_23 (g_o hG215 rfl) (v := (M220.2.1 77 9)) rfl ?_
                  refine to_in (pc := 26) rw_162_26 rfl ?_
                  refine b_cle (pc := 27) rw_162_27 (A := (M220.2.1 77 9).toInt) (B := 99) rfl rfl (fun h258 => ?_) (fun h258 => ?_)
                  · refine to_c (pc := 38) rw_162_38 (x := (1 : Int32)) rfl rfl ?_
                    refine to_go (pc := 39) rw_162_39 ?_
                    refine s_r1 (pc := 43) rw_162_43 (A := 1) rfl (by decide) ?_
                    refine b_ine_t (pc := 196) rw_215_196 (A := 1) rfl (by decide) ?_
                    have z_259 := RS_3 p_219.1 (a := (x_ns t nn a)) (by omega) (by omega) (by omega)
                    refine to_an (pc := 201) rw_215_201 rfl ?_
                    refine s_gR (pc := 202) rw_215_202 hG215 rfl (v := 102) rfl ?_
                    refine to_in (pc := 205) rw_215_205 rfl ?_
                    refine to_an (pc := 206) rw_215_206 rfl ?_
                    refine tt_gI (pc := 207) rw_215_207 (g_o hG215 rfl) (v := (M220.2.1 77 9)) rfl ?_
                    refine s_ias (pc := 210) rw_215_210 hG215 rfl (n := 40) rfl (A := (M.2.1 77 44).toInt) rfl (by omega) (by omega) (fun M261 W260 => ?_)
                    have hG262 := g_w hG215 W260 (A := (M220.2.1 77 9).toInt) rfl (lo := -1) (hi := 99) rfl rfl (by omega) (by decide)
                    have F263 := FR.w F221 W260 (show 102 = 77 ∧ (((M.2.1 77 44).toInt).toNat = 4 ∨ ((M.2.1 77 44).toInt).toNat = 5 ∨ 7 ≤ ((M.2.1 77 44).toInt).toNat ∧ ((M.2.1 77 44).toInt).toNat ≤ 10) ∨ 102 = 77 ∧ (((M.2.1 77 44).toInt).toNat = 44 ∨ ((M.2.1 77 44).toInt).toNat = 52) ∨ 101 ≤ 102 ∧ 102 ≤ 108 by omega)
                    refine to_an (pc := 211) rw_215_211 rfl ?_
                    refine s_v (pc := 212) rw_215_212 (dp0 hd (by decide)) (ls0 := [.ref 77]) rfl (Nat.le_of_ble_eq_true rfl) (Nat.le_of_ble_eq_true rfl) rfl (to_rc rfl rfl rfl (g_o hG262 rfl)) rfl ?_
                    have c_264 : M261.2.1 77 7 = (M220.2.1 77 7) := (W_n W260 (fun z => absurd z.1 (by decide)) rfl)
                    have t_265 : (M261.2.1 77 7).toInt = (M220.2.1 77 7).toInt := congrArg Int32.toInt c_264
                    have c_266 : M261.2.1 77 6 = (M.2.1 77 6) := (W_n W260 (fun z => absurd z.1 (by decide)) c_223)
                    have t_267 : (M261.2.1 77 6).toInt = (M.2.1 77 6).toInt := congrArg Int32.toInt c_266
                    have c_268 : M261.2.1 77 10 = (M220.2.1 77 10) := (W_n W260 (fun z => absurd z.1 (by decide)) rfl)
                    have t_269 : (M261.2.1 77 10).toInt = (M220.2.1 77 10).toInt := congrArg Int32.toInt c_268
                    have j_270 := (RS_f (fun a i z => W_n W260 (tg_171 a i _ z) rfl) p_219.1)
                    have z_271 := RS_b j_270 (a := (x_ns t nn a)) (by omega)
                    have j_272 := (TR_f (fun a i z => W_n W260 (tg_172 a i _ z) rfl) (TR_f (tg_47 F214) j_212))
                    have j_273 := (W9_f (fun a i z => W_n W260 (tg_173 a i _ z) rfl) (W9_f (tg_48 F214) j_213))
                    refine E_156 hX (dp1 hd (by decide)) hG262 (by omega) (by omega) (by omega) (by omega) j_272 j_273  (fun M280 hG275 F274 p_276 p_277 p_278 p_279 => ?_)
                    have F281 := FR.c F263 F274 tg_186
                    have b_282 := g_b hG275 (a := 77) (i := 7) (lo := 0) (hi := 500) rfl rfl
                    have c_283 : M280.2.1 77 6 = (M.2.1 77 6) := (F_n F274 (show ¬ (77 = 77 ∧ 7 ≤ 6 ∧ 6 ≤ 10) by decide) c_266)
                    have t_284 : (M280.2.1 77 6).toInt = (M.2.1 77 6).toInt := congrArg Int32.toInt c_283
                    have b_285 := g_b hG275 (a := 77) (i := 8) (lo := 0) (hi := 5) rfl rfl
                    have b_286 := g_b hG275 (a := 77) (i := 10) (lo := 0) (hi := 500) rfl rfl
                    have z_287 := RS_s p_279.2 (a := (x_ns t nn a)) (by omega)
                    have z_288 := RS_k p_279.1 (a := (x_ns t nn (x_ns t nn a))) (by omega)
                    refine to_an (pc := 215) rw_215_215 rfl ?_
                    refine to_c (pc := 216) rw_215_216 (x := (40 : Int32)) rfl rfl ?_
                    refine s_v (pc := 218) rw_215_218 (dp0 hd (by decide)) (ls0 := [.ref 77, .int (40 : Int32)]) rfl (Nat.le_of_ble_eq_true rfl) (Nat.le_of_ble_eq_true rfl) rfl (to_rc rfl rfl rfl (g_o hG275 rfl)) rfl ?_
                    refine to_an (pc := 0) rw_159_0 rfl ?_
                    refine tt_gI (pc := 1) rw_159_1 (g_o hG275 rfl) (v := (M280.2.1 77 8)) rfl ?_
                    refine to_c (pc := 4) rw_159_4 (x := (4 : Int32)) rfl rfl ?_
                    refine b_cne (pc := 5) rw_159_5 (A := (M280.2.1 77 8).toInt) (B := 4) rfl rfl (fun h289 => ?_) (fun h289 => ?_)
                    · refine to_c (pc := 20) rw_159_20 (x := (0 : Int32)) rfl rfl ?_
                      refine s_r1 (pc := 21) rw_159_21 (A := 0) rfl (by decide) ?_
                      refine b_ine_f (pc := 221) rw_215_221 (A := 0) rfl (by decide) ?_
                      refine to_an (pc := 224) rw_215_224 rfl ?_
                      refine to_c (pc := 225) rw_215_225 (x := (1 : Int32)) rfl rfl ?_
                      refine s_v (pc := 226) rw_215_226 (dp0 hd (by decide)) (ls0 := [.ref 77, .int (1 : Int32)]) rfl (Nat.le_of_ble_eq_true rfl) (Nat.le_of_ble_eq_true rfl) rfl (to_rc rfl rfl rfl (g_o hG275 rfl)) rfl ?_
                      refine to_an (pc := 0) rw_152_0 rfl ?_
                      refine to_in (pc := 1) rw_152_1 rfl ?_
                      refine s_pI (pc := 2) rw_152_2 hG275 rfl (fun M291 W290 => ?_)
                      have hG292 := g_wf hG275 W290 rfl rfl (by decide)
                      have F293 := FR.w F281 W290 (show 77 = 77 ∧ (4 = 4 ∨ 4 = 5 ∨ 7 ≤ 4 ∧ 4 ≤ 10) ∨ 77 = 77 ∧ (4 = 44 ∨ 4 = 52) ∨ 101 ≤ 77 ∧ 77 ≤ 108 by decide)
                      refine to_an (pc := 5) rw_152_5 rfl ?_
                      refine to_an (pc := 6) rw_152_6 rfl ?_
                      have c_294 : M291.2.1 77 10 = (M280.2.1 77 10) := (W_n W290 (by decide) rfl)
                      refine tt_gI (pc := 7) rw_152_7 (g_o hG292 rfl) (v := (M280.2.1 77 10)) c_294 ?_
                      refine s_pI (pc := 10) rw_152_10 hG292 rfl (fun M296 W295 => ?_)
                      have hG297 := g_wf hG292 W295 rfl rfl (by decide)
                      have F298 := FR.w F293 W295 (show 77 = 77 ∧ (5 = 4 ∨ 5 = 5 ∨ 7 ≤ 5 ∧ 5 ≤ 10) ∨ 77 = 77 ∧ (5 = 44 ∨ 5 = 52) ∨ 101 ≤ 77 ∧ 77 ≤ 108 by decide)
                      refine to_c (pc := 13) rw_152_13 (x := (0 : Int32)) rfl rfl ?_
                      refine s_r1 (pc := 14) rw_152_14 (A := 0) rfl (by decide) ?_
                      refine s_r1 (pc := 229) rw_215_229 (A := 0) rfl (by decide) ?_
                      have k_299 : (0 : Int32).toInt = 0 := rfl
                      have c_300 : M296.2.1 77 4 = (1 : Int32) := (W_n W295 (by decide) (W_e W290))
                      have k_301 : (1 : Int32).toInt = 1 := rfl
                      have t_302 : (M296.2.1 77 4).toInt = (1 : Int32).toInt := congrArg Int32.toInt c_300
                      have c_303 : M296.2.1 77 5 = (M280.2.1 77 10) := (W_e W295)
                      have t_304 : (M296.2.1 77 5).toInt = (M280.2.1 77 10).toInt := congrArg Int32.toInt c_303
                      exact h (0 : Int32) M296 hG297 F298 (by decide) (by decide) (fun z => by exfalso; omega) (fun z => by exfalso; omega) (fun _ => winl (by omega) (by omega) ((w_ag (by omega) (by omega) (by omega) (by omega) (by omega)).trans (ag_3 (by omega) (by omega) (by omega))))
                    · refine to_an (pc := 8) rw_159_8 rfl ?_
                      refine tt_gI (pc := 9) rw_159_9 (g_o hG275 rfl) (v := (M280.2.1 77 9)) rfl ?_
                      refine to_in (pc := 12) rw_159_12 rfl ?_
                      refine b_cne (pc := 13) rw_159_13 (A := (M280.2.1 77 9).toInt) (B := 40) rfl rfl (fun h305 => ?_) (fun h305 => ?_)
                      · refine to_c (pc := 20) rw_159_20 (x := (0 : Int32)) rfl rfl ?_
                        refine s_r1 (pc := 21) rw_159_21 (A := 0) rfl (by decide) ?_
                        refine b_ine_f (pc := 221) rw_215_221 (A := 0) rfl (by decide) ?_
                        have z_306 := RS_4 p_279.1 (a := (x_ns t nn (x_ns t nn a))) (by omega) (by omega)
                        refine to_an (pc := 224) rw_215_224 rfl ?_
                        refine to_c (pc := 225) rw_215_225 (x := (1 : Int32)) rfl rfl ?_
                        refine s_v (pc := 226) rw_215_226 (dp0 hd (by decide)) (ls0 := [.ref 77, .int (1 : Int32)]) rfl (Nat.le_of_ble_eq_true rfl) (Nat.le_of_ble_eq_true rfl) rfl (to_rc rfl rfl rfl (g_o hG275 rfl)) rfl ?_
                        refine to_an (pc := 0) rw_152_0 rfl ?_
                        refine to_in (pc := 1) rw_152_1 rfl ?_
                        refine s_pI (pc := 2) rw_152_2 hG275 rfl (fun M308 W307 => ?_)
                        have hG309 := g_wf hG275 W307 rfl rfl (by decide)
                        have F310 := FR.w F281 W307 (show 77 = 77 ∧ (4 = 4 ∨ 4 = 5 ∨ 7 ≤ 4 ∧ 4 ≤ 10) ∨ 77 = 77 ∧ (4 = 44 ∨ 4 = 52) ∨ 101 ≤ 77 ∧ 77 ≤ 108 by decide)
                        refine to_an (pc := 5) rw_152_5 rfl ?_
                        refine to_an (pc := 6) rw_152_6 rfl ?_
                        have c_311 : M308.2.1 77 10 = (M280.2.1 77 10) := (W_n W307 (by decide) rfl)
                        refine tt_gI (pc := 7) rw_152_7 (g_o hG309 rfl) (v := (M280.2.1 77 10)) c_311 ?_
                        refine s_pI (pc := 10) rw_152_10 hG309 rfl (fun M313 W312 => ?_)
                        have hG314 := g_wf hG309 W312 rfl rfl (by decide)
                        have F315 := FR.w F310 W312 (show 77 = 77 ∧ (5 = 4 ∨ 5 = 5 ∨ 7 ≤ 5 ∧ 5 ≤ 10) ∨ 77 = 77 ∧ (5 = 44 ∨ 5 = 52) ∨ 101 ≤ 77 ∧ 77 ≤ 108 by decide)
                        refine to_c (pc := 13) rw_152_13 (x := (0 : Int32)) rfl rfl ?_
                        refine s_r1 (pc := 14) rw_152_14 (A := 0) rfl (by decide) ?_
                        refine s_r1 (pc := 229) rw_215_229 (A := 0) rfl (by decide) ?_
                        have k_316 : (0 : Int32).toInt = 0 := rfl
                        have c_317 : M313.2.1 77 4 = (1 : Int32) := (W_n W312 (by decide) (W_e W307))
                        have k_318 : (1 : Int32).toInt = 1 := rfl
                        have t_319 : (M313.2.1 77 4).toInt = (1 : Int32).toInt := congrArg Int32.toInt c_317
                        have c_320 : M313.2.1 77 5 = (M280.2.1 77 10) := (W_e W312)
                        have t_321 : (M313.2.1 77 5).toInt = (M280.2.1 77 10).toInt := congrArg Int32.toInt c_320
                        exact h (0 : Int32) M313 hG314 F315 (by decide) (by decide) (fun z => by exfalso; omega) (fun z => by exfalso; omega) (fun _ => winl (by omega) (by omega) ((w_ag (by omega) (by omega) (by omega) (by omega) (by omega)).trans (ag_3 (by omega) (by omega) (by omega))))
                      · refine to_c (pc := 16) rw_159_16 (x := (1 : Int32)) rfl rfl ?_
                        refine to_go (pc := 17) rw_159_17 ?_
                        refine s_r1 (pc := 21) rw_159_21 (A := 1) rfl (by decide) ?_
                        refine b_ine_t (pc := 221) rw_215_221 (A := 1) rfl (by decide) ?_
                        have z_322 := RS_4 p_279.1 (a := (x_ns t nn (x_ns t nn a))) (by omega) (by omega)
                        refine to_an (pc := 230) rw_215_230 rfl ?_
                        have c_323 : M280.2.1 77 52 = (M.2.1 77 52) := (F_n F274 (show ¬ (77 = 77 ∧ 7 ≤ 52 ∧ 52 ≤ 10) by decide) (W_n W260 (fun z => absurd z.1 (by decide)) (F_n F214 (show ¬ (77 = 77 ∧ 7 ≤ 52 ∧ 52 ≤ 10) by decide) (W_n W200 (by decide) (W_n W193 (fun z => absurd z.1 (by decide)) rfl)))))
                        refine tt_gI (pc := 231) rw_215_231 (g_o hG275 rfl) (v := (M.2.1 77 52)) c_323 ?_
                        refine to_c (pc := 234) rw_215_234 (x := (5 : Int32)) rfl rfl ?_
                        refine b_cne (pc := 235) rw_215_235 (A := (M.2.1 77 52).toInt) (B := 5) rfl rfl (fun h324 => ?_) (fun h324 => ?_)
                        · refine to_an (pc := 244) rw_215_244 rfl ?_
                          refine s_gR (pc := 245) rw_215_245 hG275 rfl (v := 108) rfl ?_
                          refine to_an (pc := 248) rw_215_248 rfl ?_
                          refine tt_gI (pc := 249) rw_215_249 (g_o hG275 rfl) (v := (M.2.1 77 52)) c_323 ?_
                          refine to_in (pc := 252) rw_215_252 rfl ?_
                          refine s_ias (pc := 253) rw_215_253 hG275 rfl (n := 5) rfl (A := (M.2.1 77 52).toInt) rfl (by omega) (by omega) (fun M326 W325 => ?_)
                          have hG327 := g_w hG275 W325 (A := (M.2.1 77 44).toInt) rfl (lo := 0) (hi := 39) rfl rfl (by omega) (by decide)
                          have F328 := FR.w F281 W325 (show 108 = 77 ∧ (((M.2.1 77 52).toInt).toNat = 4 ∨ ((M.2.1 77 52).toInt).toNat = 5 ∨ 7 ≤ ((M.2.1 77 52).toInt).toNat ∧ ((M.2.1 77 52).toInt).toNat ≤ 10) ∨ 108 = 77 ∧ (((M.2.1 77 52).toInt).toNat = 44 ∨ ((M.2.1 77 52).toInt).toNat = 52) ∨ 101 ≤ 108 ∧ 108 ≤ 108 by omega)
                          refine to_an (pc := 254) rw_215_254 rfl ?_
                          refine to_dupr (pc := 255) rw_215_255 ?_
                          have c_329 : M326.2.1 77 52 = (M.2.1 77 52) := (W_n W325 (fun z => absurd z.1 (by decide)) c_323)
                          refine tt_gI (pc := 256) rw_215_256 (g_o hG327 rfl) (v := (M.2.1 77 52)) c_329 ?_
                          refine to_c (pc := 259) rw_215_259 (x := (1 : Int32)) rfl rfl ?_
                          refine s_add (pc := 260) rw_215_260 (A := (M.2.1 77 52).toInt) (B := 1) rfl rfl (by omega) (fun v330 e331 => ?_)
                          refine s_pI (pc := 261) rw_215_261 hG327 rfl (fun M333 W332 => ?_)
                          have hG334 := g_w hG327 W332 (A := v330.toInt) rfl (lo := 0) (hi := 5) rfl rfl (by omega) (by decide)
                          have F335 := FR.w F328 W332 (show 77 = 77 ∧ (52 = 4 ∨ 52 = 5 ∨ 7 ≤ 52 ∧ 52 ≤ 10) ∨ 77 = 77 ∧ (52 = 44 ∨ 52 = 52) ∨ 101 ≤ 77 ∧ 77 ≤ 108 by decide)
                          refine to_an (pc := 264) rw_215_264 rfl ?_
                          refine s_v (pc := 265) rw_215_265 (dp0 hd (by decide)) (ls0 := [.ref 77]) rfl (Nat.le_of_ble_eq_true rfl) (Nat.le_of_ble_eq_true rfl) rfl (to_rc rfl rfl rfl (g_o hG334 rfl)) rfl ?_
                          have c_336 : M333.2.1 77 7 = (M280.2.1 77 7) := (W_n W332 (by decide) (W_n W325 (fun z => absurd z.1 (by decide)) rfl))
                          have t_337 : (M333.2.1 77 7).toInt = (M280.2.1 77 7).toInt := congrArg Int32.toInt c_336
                          have c_338 : M333.2.1 77 6 = (M.2.1 77 6) := (W_n W332 (by decide) (W_n W325 (fun z => absurd z.1 (by decide)) c_283))
                          have t_339 : (M333.2.1 77 6).toInt = (M.2.1 77 6).toInt := congrArg Int32.toInt c_338
                          have c_340 : M333.2.1 77 10 = (M280.2.1 77 10) := (W_n W332 (by decide) (W_n W325 (fun z => absurd z.1 (by decide)) rfl))
                          have t_341 : (M333.2.1 77 10).toInt = (M280.2.1 77 10).toInt := congrArg Int32.toInt c_340
                          have j_342 := (RS_f (fun a i z => W_n W332 (tg_196 a i z) rfl) (RS_f (fun a i z => W_n W325 (tg_197 a i _ z) rfl) p_279.1))
                          have z_343 := RS_b j_342 (a := (x_ns t nn (x_ns t nn a))) (by omega)
                          have j_344 := (TR_f (fun a i z => W_n W332 (tg_198 a i z) rfl) (TR_f (fun a i z => W_n W325 (tg_199 a i _ z) rfl) (TR_f (tg_47 F274) j_272)))
                          have j_345 := (W9_f (fun a i z => W_n W332 (tg_200 a i z) rfl) (W9_f (fun a i z => W_n W325 (tg_201 a i _ z) rfl) (W9_f (tg_48 F274) j_273)))
                          refine E_156 hX (dp1 hd (by decide)) hG334 (by omega) (by omega) (by omega) (by omega) j_344 j_345  (fun M352 hG347 F346 p_348 p_349 p_350 p_351 => ?_)
                          have F353 := FR.c F335 F346 tg_186
                          have b_354 := g_b hG347 (a := 77) (i := 7) (lo := 0) (hi := 500) rfl rfl
                          have c_355 : M352.2.1 77 6 = (M.2.1 77 6) := (F_n F346 (show ¬ (77 = 77 ∧ 7 ≤ 6 ∧ 6 ≤ 10) by decide) c_338)
                          have t_356 : (M352.2.1 77 6).toInt = (M.2.1 77 6).toInt := congrArg Int32.toInt c_355
                          have b_357 := g_b hG347 (a := 77) (i := 8) (lo := 0) (hi := 5) rfl rfl
                          have b_358 := g_b hG347 (a := 77) (i := 10) (lo := 0) (hi := 500) rfl rfl
                          have z_359 := RS_s p_351.2 (a := (x_ns t nn (x_ns t nn a))) (by omega)
                          refine to_c (pc := 268) rw_215_268 (x := (1 : Int32)) rfl rfl ?_
                          refine s_r1 (pc := 269) rw_215_269 (A := 1) rfl (by decide) ?_
                          have k_360 : (1 : Int32).toInt = 1 := rfl
                          have c_361 : M352.2.1 77 44 = v198 := (F_n F346 (show ¬ (77 = 77 ∧ 7 ≤ 44 ∧ 44 ≤ 10) by decide) (W_n W332 (by decide) (W_n W325 (fun z => absurd z.1 (by decide)) (F_n F274 (show ¬ (77 = 77 ∧ 7 ≤ 44 ∧ 44 ≤ 10) by decide) (W_n W260 (fun z => absurd z.1 (by decide)) (F_n F214 (show ¬ (77 = 77 ∧ 7 ≤ 44 ∧ 44 ≤ 10) by decide) (W_e W200)))))))
                          have t_362 : (M352.2.1 77 44).toInt = v198.toInt := congrArg Int32.toInt c_361
                          have c_363 : M352.2.1 77 52 = v330 := (F_n F346 (show ¬ (77 = 77 ∧ 7 ≤ 52 ∧ 52 ≤ 10) by decide) (W_e W332))
                          have t_364 : (M352.2.1 77 52).toInt = v330.toInt := congrArg Int32.toInt c_363
                          have k_365 : (2 : Int32).toInt = 2 := rfl
                          exact h (1 : Int32) M352 hG347 F353 (by decide) (by decide) (fun _ => p_351.1) (fun _ => WS_a (tm := x_val t nn (x_ns t nn a)) (by omega) q11 q12 q13 q14 (fun r i z z2 => (F_n F346 (show ¬ (r = 77 ∧ 7 ≤ i ∧ i ≤ 10) by omega) (W_n W332 (by omega) (W_n W325 (by omega) (F_n F274 (show ¬ (r = 77 ∧ 7 ≤ i ∧ i ≤ 10) by omega) (W_n W260 (by omega) (F_n F214 (show ¬ (r = 77 ∧ 7 ≤ i ∧ i ≤ 10) by omega) (W_n W200 (by omega) (W_n W193 (by omega) rfl))))))))) (by rw [show n9.toNat = ((M.2.1 77 44).toInt).toNat by omega, show M352.2.1 101 ((M.2.1 77 44).toInt).toNat = (2 : Int32) from (F_n F346 (show ¬ (101 = 77 ∧ 7 ≤ ((M.2.1 77 44).toInt).toNat ∧ ((M.2.1 77 44).toInt).toNat ≤ 10) by omega) (W_n W332 (by omega) (W_n W325 (by omega) (F_n F274 (show ¬ (101 = 77 ∧ 7 ≤ ((M.2.1 77 44).toInt).toNat ∧ ((M.2.1 77 44).toInt).toNat ≤ 10) by omega) (W_n W260 (by omega) (F_n F214 (show ¬ (101 = 77 ∧ 7 ≤ ((M.2.1 77 44).toInt).toNat ∧ ((M.2.1 77 44).toInt).toNat ≤ 10) by omega) (W_n W200 (by omega) (W_e W193))))))))]; exact (show (2 : Int32).toInt = 2 by omega)) (by rw [show n9.toNat = ((M.2.1 77 44).toInt).toNat by omega, show M352.2.1 102 ((M.2.1 77 44).toInt).toNat = (M220.2.1 77 9) from (F_n F346 (show ¬ (102 = 77 ∧ 7 ≤ ((M.2.1 77 44).toInt).toNat ∧ ((M.2.1 77 44).toInt).toNat ≤ 10) by omega) (W_n W332 (by omega) (W_n W325 (by omega) (F_n F274 (show ¬ (102 = 77 ∧ 7 ≤ ((M.2.1 77 44).toInt).toNat ∧ ((M.2.1 77 44).toInt).toNat ≤ 10) by omega) (W_e W260)))))]; exact (show (M220.2.1 77 9).toInt = x_val t nn (x_ns t nn a) by omega)) (fun i => (F_n F346 (show ¬ (105 = 77 ∧ 7 ≤ i ∧ i ≤ 10) by omega) (W_n W332 (by omega) (W_n W325 (by omega) (F_n F274 (show ¬ (105 = 77 ∧ 7 ≤ i ∧ i ≤ 10) by omega) (W_n W260 (by omega) (F_n F214 (show ¬ (105 = 77 ∧ 7 ≤ i ∧ i ≤ 10) by omega) (W_n W200 (by omega) (W_n W193 (by omega) rfl))))))))) (fun i z => (F_n F346 (show ¬ (108 = 77 ∧ 7 ≤ i ∧ i ≤ 10) by omega) (W_n W332 (by omega) (W_n W325 (by omega) (F_n F274 (show ¬ (108 = 77 ∧ 7 ≤ i ∧ i ≤ 10) by omega) (W_n W260 (by omega) (F_n F214 (show ¬ (108 = 77 ∧ 7 ≤ i ∧ i ≤ 10) by omega) (W_n W200 (by omega) (W_n W193 (by omega) rfl))))))))) (by rw [show ((M.2.1 77 52).toInt).toNat = ((M.2.1 77 52).toInt).toNat by omega, show M352.2.1 108 ((M.2.1 77 52).toInt).toNat = (M.2.1 77 44) from (F_n F346 (show ¬ (108 = 77 ∧ 7 ≤ (((M.2.1 77 52).toInt).toNat) ∧ (((M.2.1 77 52).toInt).toNat) ≤ 10) by omega) (W_n W332 (by omega) (W_e W325)))]; omega) (by omega) (by omega) (((w_ag (by omega) (by omega) (by omega) (by omega) (by omega)).trans (ag_y (by omega) (by omega) (by omega) (by omega))).trans (w_v rfl (by omega)))) (fun z => by exfalso; omega)
                        · refine to_an (pc := 238) rw_215_238 rfl ?_
                          refine to_c (pc := 239) rw_215_239 (x := (2 : Int32)) rfl rfl ?_
                          refine s_v (pc := 240) rw_215_240 (dp0 hd (by decide)) (ls0 := [.ref 77, .int (2 : Int32)]) rfl (Nat.le_of_ble_eq_true rfl) (Nat.le_of_ble_eq_true rfl) rfl (to_rc rfl rfl rfl (g_o hG275 rfl)) rfl ?_
                          refine to_an (pc := 0) rw_152_0 rfl ?_
                          refine to_in (pc := 1) rw_152_1 rfl ?_
                          refine s_pI (pc := 2) rw_152_2 hG275 rfl (fun M367 W366 => ?_)
                          have hG368 := g_wf hG275 W366 rfl rfl (by decide)
                          have F369 := FR.w F281 W366 (show 77 = 77 ∧ (4 = 4 ∨ 4 = 5 ∨ 7 ≤ 4 ∧ 4 ≤ 10) ∨ 77 = 77 ∧ (4 = 44 ∨ 4 = 52) ∨ 101 ≤ 77 ∧ 77 ≤ 108 by decide)
                          refine to_an (pc := 5) rw_152_5 rfl ?_
                          refine to_an (pc := 6) rw_152_6 rfl ?_
                          have c_370 : M367.2.1 77 10 = (M280.2.1 77 10) := (W_n W366 (by decide) rfl)
                          refine tt_gI (pc := 7) rw_152_7 (g_o hG368 rfl) (v := (M280.2.1 77 10)) c_370 ?_
                          refine s_pI (pc := 10) rw_152_10 hG368 rfl (fun M372 W371 => ?_)
                          have hG373 := g_wf hG368 W371 rfl rfl (by decide)
                          have F374 := FR.w F369 W371 (show 77 = 77 ∧ (5 = 4 ∨ 5 = 5 ∨ 7 ≤ 5 ∧ 5 ≤ 10) ∨ 77 = 77 ∧ (5 = 44 ∨ 5 = 52) ∨ 101 ≤ 77 ∧ 77 ≤ 108 by decide)
                          refine to_c (pc := 13) rw_152_13 (x := (0 : Int32)) rfl rfl ?_
                          refine s_r1 (pc := 14) rw_152_14 (A := 0) rfl (by decide) ?_
                          refine s_r1 (pc := 243) rw_215_243 (A := 0) rfl (by decide) ?_
                          have k_375 : (0 : Int32).toInt = 0 := rfl
                          have c_376 : M372.2.1 77 4 = (2 : Int32) := (W_n W371 (by decide) (W_e W366))
                          have k_377 : (2 : Int32).toInt = 2 := rfl
                          have t_378 : (M372.2.1 77 4).toInt = (2 : Int32).toInt := congrArg Int32.toInt c_376
                          have c_379 : M372.2.1 77 5 = (M280.2.1 77 10) := (W_e W371)
                          have t_380 : (M372.2.1 77 5).toInt = (M280.2.1 77 10).toInt := congrArg Int32.toInt c_379
                          exact h (0 : Int32) M372 hG373 F374 (by decide) (by decide) (fun z => by exfalso; omega) (fun z => by exfalso; omega) (fun _ => winl (by omega) (by omega) ((w_ag (by omega) (by omega) (by omega) (by omega) (by omega)).trans (ag_4 (by omega) (by omega) (by omega) (by omega))))
                  · refine to_an (pc := 30) rw_162_30 rfl ?_
                    refine to_c (pc := 31) rw_162_31 (x := (2 : Int32)) rfl rfl ?_
                    refine s_v (pc := 32) rw_162_32 (dp1 hd (by decide)) (ls0 := [.ref 77, .int (2 : Int32)]) rfl (Nat.le_of_ble_eq_true rfl) (Nat.le_of_ble_eq_true rfl) rfl (to_rc rfl rfl rfl (g_o hG215 rfl)) rfl ?_
                    refine to_an (pc := 0) rw_152_0 rfl ?_
                    refine to_in (pc := 1) rw_152_1 rfl ?_
                    refine s_pI (pc := 2) rw_152_2 hG215 rfl (fun M382 W381 => ?_)
                    have hG383 := g_wf hG215 W381 rfl rfl (by decide)
                    have F384 := FR.w F221 W381 (show 77 = 77 ∧ (4 = 4 ∨ 4 = 5 ∨ 7 ≤ 4 ∧ 4 ≤ 10) ∨ 77 = 77 ∧ (4 = 44 ∨ 4 = 52) ∨ 101 ≤ 77 ∧ 77 ≤ 108 by decide)
                    refine to_an (pc := 5) rw_152_5 rfl ?_
                    refine to_an (pc := 6) rw_152_6 rfl ?_
                    have c_385 : M382.2.1 77 10 = (M220.2.1 77 10) := (W_n W381 (by decide) rfl)
                    refine tt_gI (pc := 7) rw_152_7 (g_o hG383 rfl) (v := (M220.2.1 77 10)) c_385 ?_
                    refine s_pI (pc := 10) rw_152_10 hG383 rfl (fun M387 W386 => ?_)
                    have hG388 := g_wf hG383 W386 rfl rfl (by decide)
                    have F389 := FR.w F384 W386 (show 77 = 77 ∧ (5 = 4 ∨ 5 = 5 ∨ 7 ≤ 5 ∧ 5 ≤ 10) ∨ 77 = 77 ∧ (5 = 44 ∨ 5 = 52) ∨ 101 ≤ 77 ∧ 77 ≤ 108 by decide)
                    refine to_c (pc := 13) rw_152_13 (x := (0 : Int32)) rfl rfl ?_
                    refine s_r1 (pc := 14) rw_152_14 (A := 0) rfl (by decide) ?_
                    refine b_ieq_t (pc := 35) rw_162_35 (A := 0) rfl (by decide) ?_
                    refine to_c (pc := 42) rw_162_42 (x := (0 : Int32)) rfl rfl ?_
                    refine s_r1 (pc := 43) rw_162_43 (A := 0) rfl (by decide) ?_
                    refine b_ine_f (pc := 196) rw_215_196 (A := 0) rfl (by decide) ?_
                    have c_390 : M387.2.1 77 4 = (2 : Int32) := (W_n W386 (by decide) (W_e W381))
                    have c_391 : M387.2.1 77 8 = (M220.2.1 77 8) := (W_n W386 (by decide) (W_n W381 (by decide) rfl))
                    have t_392 : (M387.2.1 77 8).toInt = (M220.2.1 77 8).toInt := congrArg Int32.toInt c_391
                    have c_393 : M387.2.1 77 9 = (M220.2.1 77 9) := (W_n W386 (by decide) (W_n W381 (by decide) rfl))
                    have t_394 : (M387.2.1 77 9).toInt = (M220.2.1 77 9).toInt := congrArg Int32.toInt c_393
                    have c_395 : M387.2.1 77 10 = (M220.2.1 77 10) := (W_n W386 (by decide) c_385)
                    have t_396 : (M387.2.1 77 10).toInt = (M220.2.1 77 10).toInt := congrArg Int32.toInt c_395
                    have j_397 := (RS_f (fun a i z => W_n W386 (tg_37 a i z) rfl) (RS_f (fun a i z => W_n W381 (tg_38 a i z) rfl) p_219.1))
                    have z_398 := RS_3x j_397 (a := (x_ns t nn a)) (m := 99) (by omega) (by omega) (by omega) (by omega)
                    refine to_c (pc := 199) rw_215_199 (x := (0 : Int32)) rfl rfl ?_
                    refine s_r1 (pc := 200) rw_215_200 (A := 0) rfl (by decide) ?_
                    have k_399 : (0 : Int32).toInt = 0 := rfl
                    have k_400 : (2 : Int32).toInt = 2 := rfl
                    have t_401 : (M387.2.1 77 4).toInt = (2 : Int32).toInt := congrArg Int32.toInt c_390
                    have c_402 : M387.2.1 77 5 = (M220.2.1 77 10) := (W_e W386)
                    have t_403 : (M387.2.1 77 5).toInt = (M220.2.1 77 10).toInt := congrArg Int32.toInt c_402
                    exact h (0 : Int32) M387 hG388 F389 (by decide) (by decide) (fun z => by exfalso; omega) (fun z => by exfalso; omega) (fun _ => winl (by omega) (by omega) ((w_ag (by omega) (by omega) (by omega) (by omega) (by omega)).trans (ag_2 (by omega) (by omega))))
              · refine to_an (pc := 8) rw_162_8 rfl ?_
                refine to_c (pc := 9) rw_162_9 (x := (1 : Int32)) rfl rfl ?_
                refine s_v (pc := 10) rw_162_10 (dp1 hd (by decide)) (ls0 := [.ref 77, .int (1 : Int32)]) rfl (Nat.le_of_ble_eq_true rfl) (Nat.le_of_ble_eq_true rfl) rfl (to_rc rfl rfl rfl (g_o hG215 rfl)) rfl ?_
                refine to_an (pc := 0) rw_152_0 rfl ?_
                refine to_in (pc := 1) rw_152_1 rfl ?_
                refine s_pI (pc := 2) rw_152_2 hG215 rfl (fun M405 W404 => ?_)
                have hG406 := g_wf hG215 W404 rfl rfl (by decide)
                have F407 := FR.w F221 W404 (show 77 = 77 ∧ (4 = 4 ∨ 4 = 5 ∨ 7 ≤ 4 ∧ 4 ≤ 10) ∨ 77 = 77 ∧ (4 = 44 ∨ 4 = 52) ∨ 101 ≤ 77 ∧ 77 ≤ 108 by decide)
                refine to_an (pc := 5) rw_152_5 rfl ?_
                refine to_an (pc := 6) rw_152_6 rfl ?_
                have c_408 : M405.2.1 77 10 = (M220.2.1 77 10) := (W_n W404 (by decide) rfl)
                refine tt_gI (pc := 7) rw_152_7 (g_o hG406 rfl) (v := (M220.2.1 77 10)) c_408 ?_
                refine s_pI (pc := 10) rw_152_10 hG406 rfl (fun M410 W409 => ?_)
                have hG411 := g_wf hG406 W409 rfl rfl (by decide)
                have F412 := FR.w F407 W409 (show 77 = 77 ∧ (5 = 4 ∨ 5 = 5 ∨ 7 ≤ 5 ∧ 5 ≤ 10) ∨ 77 = 77 ∧ (5 = 44 ∨ 5 = 52) ∨ 101 ≤ 77 ∧ 77 ≤ 108 by decide)
                refine to_c (pc := 13) rw_152_13 (x := (0 : Int32)) rfl rfl ?_
                refine s_r1 (pc := 14) rw_152_14 (A := 0) rfl (by decide) ?_
                refine s_r1 (pc := 13) rw_162_13 (A := 0) rfl (by decide) ?_
                refine b_ine_f (pc := 196) rw_215_196 (A := 0) rfl (by decide) ?_
                have c_413 : M410.2.1 77 4 = (1 : Int32) := (W_n W409 (by decide) (W_e W404))
                refine to_c (pc := 199) rw_215_199 (x := (0 : Int32)) rfl rfl ?_
                refine s_r1 (pc := 200) rw_215_200 (A := 0) rfl (by decide) ?_
                have k_414 : (0 : Int32).toInt = 0 := rfl
                have k_415 : (1 : Int32).toInt = 1 := rfl
                have t_416 : (M410.2.1 77 4).toInt = (1 : Int32).toInt := congrArg Int32.toInt c_413
                have c_417 : M410.2.1 77 5 = (M220.2.1 77 10) := (W_e W409)
                have t_418 : (M410.2.1 77 5).toInt = (M220.2.1 77 10).toInt := congrArg Int32.toInt c_417
                exact h (0 : Int32) M410 hG411 F412 (by decide) (by decide) (fun z => by exfalso; omega) (fun z => by exfalso; omega) (fun _ => winl (by omega) (by omega) ((w_ag (by omega) (by omega) (by omega) (by omega) (by omega)).trans (ag_1 (by omega))))
            · refine to_an (pc := 100) rw_215_100 rfl ?_
              refine to_c (pc := 101) rw_215_101 (x := (2 : Int32)) rfl rfl ?_
              refine s_v (pc := 102) rw_215_102 (dp0 hd (by decide)) (ls0 := [.ref 77, .int (2 : Int32)]) rfl (Nat.le_of_ble_eq_true rfl) (Nat.le_of_ble_eq_true rfl) rfl (to_rc rfl rfl rfl (g_o hG rfl)) rfl ?_
              refine to_an (pc := 0) rw_152_0 rfl ?_
              refine to_in (pc := 1) rw_152_1 rfl ?_
              refine s_pI (pc := 2) rw_152_2 hG rfl (fun M420 W419 => ?_)
              have hG421 := g_wf hG W419 rfl rfl (by decide)
              have F422 := FR.w F0 W419 (show 77 = 77 ∧ (4 = 4 ∨ 4 = 5 ∨ 7 ≤ 4 ∧ 4 ≤ 10) ∨ 77 = 77 ∧ (4 = 44 ∨ 4 = 52) ∨ 101 ≤ 77 ∧ 77 ≤ 108 by decide)
              refine to_an (pc := 5) rw_152_5 rfl ?_
              refine to_an (pc := 6) rw_152_6 rfl ?_
              have c_423 : M420.2.1 77 10 = (M.2.1 77 10) := (W_n W419 (by decide) rfl)
              refine tt_gI (pc := 7) rw_152_7 (g_o hG421 rfl) (v := (M.2.1 77 10)) c_423 ?_
              refine s_pI (pc := 10) rw_152_10 hG421 rfl (fun M425 W424 => ?_)
              have hG426 := g_wf hG421 W424 rfl rfl (by decide)
              have F427 := FR.w F422 W424 (show 77 = 77 ∧ (5 = 4 ∨ 5 = 5 ∨ 7 ≤ 5 ∧ 5 ≤ 10) ∨ 77 = 77 ∧ (5 = 44 ∨ 5 = 52) ∨ 101 ≤ 77 ∧ 77 ≤ 108 by decide)
              refine to_c (pc := 13) rw_152_13 (x := (0 : Int32)) rfl rfl ?_
              refine s_r1 (pc := 14) rw_152_14 (A := 0) rfl (by decide) ?_
              refine s_r1 (pc := 105) rw_215_105 (A := 0) rfl (by decide) ?_
              have k_428 : (0 : Int32).toInt = 0 := rfl
              have c_429 : M425.2.1 77 4 = (2 : Int32) := (W_n W424 (by decide) (W_e W419))
              have k_430 : (2 : Int32).toInt = 2 := rfl
              have t_431 : (M425.2.1 77 4).toInt = (2 : Int32).toInt := congrArg Int32.toInt c_429
              have c_432 : M425.2.1 77 5 = (M.2.1 77 10) := (W_e W424)
              have t_433 : (M425.2.1 77 5).toInt = (M.2.1 77 10).toInt := congrArg Int32.toInt c_432
              exact h (0 : Int32) M425 hG426 F427 (by decide) (by decide) (fun z => by exfalso; omega) (fun z => by exfalso; omega) (fun _ => winl (by omega) (by omega) (w_40 (by omega) (by omega) (by omega) (by omega) (by omega)))
          · have z_434 := RS_1 q1 (a := a) (by omega) (by omega)
            refine to_an (pc := 85) rw_215_85 rfl ?_
            refine to_c (pc := 86) rw_215_86 (x := (1 : Int32)) rfl rfl ?_
            refine s_v (pc := 87) rw_215_87 (dp0 hd (by decide)) (ls0 := [.ref 77, .int (1 : Int32)]) rfl (Nat.le_of_ble_eq_true rfl) (Nat.le_of_ble_eq_true rfl) rfl (to_rc rfl rfl rfl (g_o hG rfl)) rfl ?_
            refine to_an (pc := 0) rw_152_0 rfl ?_
            refine to_in (pc := 1) rw_152_1 rfl ?_
            refine s_pI (pc := 2) rw_152_2 hG rfl (fun M436 W435 => ?_)
            have hG437 := g_wf hG W435 rfl rfl (by decide)
            have F438 := FR.w F0 W435 (show 77 = 77 ∧ (4 = 4 ∨ 4 = 5 ∨ 7 ≤ 4 ∧ 4 ≤ 10) ∨ 77 = 77 ∧ (4 = 44 ∨ 4 = 52) ∨ 101 ≤ 77 ∧ 77 ≤ 108 by decide)
            refine to_an (pc := 5) rw_152_5 rfl ?_
            refine to_an (pc := 6) rw_152_6 rfl ?_
            have c_439 : M436.2.1 77 10 = (M.2.1 77 10) := (W_n W435 (by decide) rfl)
            refine tt_gI (pc := 7) rw_152_7 (g_o hG437 rfl) (v := (M.2.1 77 10)) c_439 ?_
            refine s_pI (pc := 10) rw_152_10 hG437 rfl (fun M441 W440 => ?_)
            have hG442 := g_wf hG437 W440 rfl rfl (by decide)
            have F443 := FR.w F438 W440 (show 77 = 77 ∧ (5 = 4 ∨ 5 = 5 ∨ 7 ≤ 5 ∧ 5 ≤ 10) ∨ 77 = 77 ∧ (5 = 44 ∨ 5 = 52) ∨ 101 ≤ 77 ∧ 77 ≤ 108 by decide)
            refine to_c (pc := 13) rw_152_13 (x := (0 : Int32)) rfl rfl ?_
            refine s_r1 (pc := 14) rw_152_14 (A := 0) rfl (by decide) ?_
            refine s_r1 (pc := 90) rw_215_90 (A := 0) rfl (by decide) ?_
            have k_444 : (0 : Int32).toInt = 0 := rfl
            have c_445 : M441.2.1 77 4 = (1 : Int32) := (W_n W440 (by decide) (W_e W435))
            have k_446 : (1 : Int32).toInt = 1 := rfl
            have t_447 : (M441.2.1 77 4).toInt = (1 : Int32).toInt := congrArg Int32.toInt c_445
            have c_448 : M441.2.1 77 5 = (M.2.1 77 10) := (W_e W440)
            have t_449 : (M441.2.1 77 5).toInt = (M.2.1 77 10).toInt := congrArg Int32.toInt c_448
            exact h (0 : Int32) M441 hG442 F443 (by decide) (by decide) (fun z => by exfalso; omega) (fun z => by exfalso; omega) (fun _ => winl (by omega) (by omega) (w_kx (by omega) (by omega) (by omega) (by omega)))
  · refine to_an (pc := 8) rw_159_8 rfl ?_
    refine tt_gI (pc := 9) rw_159_9 (g_o hG rfl) (v := (M.2.1 77 9)) rfl ?_
    refine to_in (pc := 12) rw_159_12 rfl ?_
    refine b_cne (pc := 13) rw_159_13 (A := (M.2.1 77 9).toInt) (B := 41) rfl rfl (fun h450 => ?_) (fun h450 => ?_)
    · refine to_c (pc := 20) rw_159_20 (x := (0 : Int32)) rfl rfl ?_
      refine s_r1 (pc := 21) rw_159_21 (A := 0) rfl (by decide) ?_
      refine b_ieq_t (pc := 6) rw_215_6 (A := 0) rfl (by decide) ?_
      have z_451 := RS_4 q1 (a := a) (by omega) (by omega)
      refine to_an (pc := 50) rw_215_50 rfl ?_
      refine tt_gI (pc := 51) rw_215_51 (g_o hG rfl) (v := (M.2.1 77 8)) rfl ?_
      refine to_c (pc := 54) rw_215_54 (x := (1 : Int32)) rfl rfl ?_
      refine b_cne_t (pc := 55) rw_215_55 (A := (M.2.1 77 8).toInt) (B := 1) rfl rfl (by omega) ?_
      refine to_an (pc := 85) rw_215_85 rfl ?_
      refine to_c (pc := 86) rw_215_86 (x := (1 : Int32)) rfl rfl ?_
      refine s_v (pc := 87) rw_215_87 (dp0 hd (by decide)) (ls0 := [.ref 77, .int (1 : Int32)]) rfl (Nat.le_of_ble_eq_true rfl) (Nat.le_of_ble_eq_true rfl) rfl (to_rc rfl rfl rfl (g_o hG rfl)) rfl ?_
      refine to_an (pc := 0) rw_152_0 rfl ?_
      refine to_in (pc := 1) rw_152_1 rfl ?_
      refine s_pI (pc := 2) rw_152_2 hG rfl (fun M453 W452 => ?_)
      have hG454 := g_wf hG W452 rfl rfl (by decide)
      have F455 := FR.w F0 W452 (show 77 = 77 ∧ (4 = 4 ∨ 4 = 5 ∨ 7 ≤ 4 ∧ 4 ≤ 10) ∨ 77 = 77 ∧ (4 = 44 ∨ 4 = 52) ∨ 101 ≤ 77 ∧ 77 ≤ 108 by decide)
      refine to_an (pc := 5) rw_152_5 rfl ?_
      refine to_an (pc := 6) rw_152_6 rfl ?_
      have c_456 : M453.2.1 77 10 = (M.2.1 77 10) := (W_n W452 (by decide) rfl)
      refine tt_gI (pc := 7) rw_152_7 (g_o hG454 rfl) (v := (M.2.1 77 10)) c_456 ?_
      refine s_pI (pc := 10) rw_152_10 hG454 rfl (fun M458 W457 => ?_)
      have hG459 := g_wf hG454 W457 rfl rfl (by decide)
      have F460 := FR.w F455 W457 (show 77 = 77 ∧ (5 = 4 ∨ 5 = 5 ∨ 7 ≤ 5 ∧ 5 ≤ 10) ∨ 77 = 77 ∧ (5 = 44 ∨ 5 = 52) ∨ 101 ≤ 77 ∧ 77 ≤ 108 by decide)
      refine to_c (pc := 13) rw_152_13 (x := (0 : Int32)) rfl rfl ?_
      refine s_r1 (pc := 14) rw_152_14 (A := 0) rfl (by decide) ?_
      refine s_r1 (pc := 90) rw_215_90 (A := 0) rfl (by decide) ?_
      have k_461 : (0 : Int32).toInt = 0 := rfl
      have c_462 : M458.2.1 77 4 = (1 : Int32) := (W_n W457 (by decide) (W_e W452))
      have k_463 : (1 : Int32).toInt = 1 := rfl
      have t_464 : (M458.2.1 77 4).toInt = (1 : Int32).toInt := congrArg Int32.toInt c_462
      have c_465 : M458.2.1 77 5 = (M.2.1 77 10) := (W_e W457)
      have t_466 : (M458.2.1 77 5).toInt = (M.2.1 77 10).toInt := congrArg Int32.toInt c_465
      exact h (0 : Int32) M458 hG459 F460 (by decide) (by decide) (fun z => by exfalso; omega) (fun z => by exfalso; omega) (fun _ => winl (by omega) (by omega) (w_nx (by omega) (by omega) (by omega) (by omega) (by omega)))
    · refine to_c (pc := 16) rw_159_16 (x := (1 : Int32)) rfl rfl ?_
      refine to_go (pc := 17) rw_159_17 ?_
      refine s_r1 (pc := 21) rw_159_21 (A := 1) rfl (by decide) ?_
      refine b_ieq_f (pc := 6) rw_215_6 (A := 1) rfl (by decide) ?_
      refine to_an (pc := 9) rw_215_9 rfl ?_
      refine tt_gI (pc := 10) rw_215_10 (g_o hG rfl) (v := (M.2.1 77 52)) rfl ?_
      refine b_ile (pc := 13) rw_215_13 (A := (M.2.1 77 52).toInt) rfl (fun h467 => ?_) (fun h467 => ?_)
      · have z_468 := RS_4 q1 (a := a) (by omega) (by omega)
        refine to_an (pc := 50) rw_215_50 rfl ?_
        refine tt_gI (pc := 51) rw_215_51 (g_o hG rfl) (v := (M.2.1 77 8)) rfl ?_
        refine to_c (pc := 54) rw_215_54 (x := (1 : Int32)) rfl rfl ?_
        refine b_cne_t (pc := 55) rw_215_55 (A := (M.2.1 77 8).toInt) (B := 1) rfl rfl (by omega) ?_
        refine to_an (pc := 85) rw_215_85 rfl ?_
        refine to_c (pc := 86) rw_215_86 (x := (1 : Int32)) rfl rfl ?_
        refine s_v (pc := 87) rw_215_87 (dp0 hd (by decide)) (ls0 := [.ref 77, .int (1 : Int32)]) rfl (Nat.le_of_ble_eq_true rfl) (Nat.le_of_ble_eq_true rfl) rfl (to_rc rfl rfl rfl (g_o hG rfl)) rfl ?_
        refine to_an (pc := 0) rw_152_0 rfl ?_
        refine to_in (pc := 1) rw_152_1 rfl ?_
        refine s_pI (pc := 2) rw_152_2 hG rfl (fun M470 W469 => ?_)
        have hG471 := g_wf hG W469 rfl rfl (by decide)
        have F472 := FR.w F0 W469 (show 77 = 77 ∧ (4 = 4 ∨ 4 = 5 ∨ 7 ≤ 4 ∧ 4 ≤ 10) ∨ 77 = 77 ∧ (4 = 44 ∨ 4 = 52) ∨ 101 ≤ 77 ∧ 77 ≤ 108 by decide)
        refine to_an (pc := 5) rw_152_5 rfl ?_
        refine to_an (pc := 6) rw_152_6 rfl ?_
        have c_473 : M470.2.1 77 10 = (M.2.1 77 10) := (W_n W469 (by decide) rfl)
        refine tt_gI (pc := 7) rw_152_7 (g_o hG471 rfl) (v := (M.2.1 77 10)) c_473 ?_
        refine s_pI (pc := 10) rw_152_10 hG471 rfl (fun M475 W474 => ?_)
        have hG476 := g_wf hG471 W474 rfl rfl (by decide)
        have F477 := FR.w F472 W474 (show 77 = 77 ∧ (5 = 4 ∨ 5 = 5 ∨ 7 ≤ 5 ∧ 5 ≤ 10) ∨ 77 = 77 ∧ (5 = 44 ∨ 5 = 52) ∨ 101 ≤ 77 ∧ 77 ≤ 108 by decide)
        refine to_c (pc := 13) rw_152_13 (x := (0 : Int32)) rfl rfl ?_
        refine s_r1 (pc := 14) rw_152_14 (A := 0) rfl (by decide) ?_
        refine s_r1 (pc := 90) rw_215_90 (A := 0) rfl (by decide) ?_
        have k_478 : (0 : Int32).toInt = 0 := rfl
        have c_479 : M475.2.1 77 4 = (1 : Int32) := (W_n W474 (by decide) (W_e W469))
        have k_480 : (1 : Int32).toInt = 1 := rfl
        have t_481 : (M475.2.1 77 4).toInt = (1 : Int32).toInt := congrArg Int32.toInt c_479
        have c_482 : M475.2.1 77 5 = (M.2.1 77 10) := (W_e W474)
        have t_483 : (M475.2.1 77 5).toInt = (M.2.1 77 10).toInt := congrArg Int32.toInt c_482
        exact h (0 : Int32) M475 hG476 F477 (by decide) (by decide) (fun z => by exfalso; omega) (fun z => by exfalso; omega) (fun _ => winl (by omega) (by omega) (w_nx (by omega) (by omega) (by omega) (by omega) (by omega)))
      · have z_484 := RS_4 q1 (a := a) (by omega) (by omega)
        refine to_an (pc := 16) rw_215_16 rfl ?_
        refine to_dupr (pc := 17) rw_215_17 ?_
        refine tt_gI (pc := 18) rw_215_18 (g_o hG rfl) (v := (M.2.1 77 52)) rfl ?_
        refine to_c (pc := 21) rw_215_21 (x := (1 : Int32)) rfl rfl ?_
        refine s_sub (pc := 22) rw_215_22 (A := (M.2.1 77 52).toInt) (B := 1) rfl rfl (by omega) (fun v485 e486 => ?_)
        refine s_pI (pc := 23) rw_215_23 hG rfl (fun M488 W487 => ?_)
        have hG489 := g_w hG W487 (A := v485.toInt) rfl (lo := 0) (hi := 5) rfl rfl (by omega) (by decide)
        have F490 := FR.w F0 W487 (show 77 = 77 ∧ (52 = 4 ∨ 52 = 5 ∨ 7 ≤ 52 ∧ 52 ≤ 10) ∨ 77 = 77 ∧ (52 = 44 ∨ 52 = 52) ∨ 101 ≤ 77 ∧ 77 ≤ 108 by decide)
        refine to_an (pc := 26) rw_215_26 rfl ?_
        refine s_gR (pc := 27) rw_215_27 hG489 rfl (v := 105) rfl ?_
        refine to_an (pc := 30) rw_215_30 rfl ?_
        refine s_gR (pc := 31) rw_215_31 hG489 rfl (v := 108) rfl ?_
        refine to_an (pc := 34) rw_215_34 rfl ?_
        have c_491 : M488.2.1 77 52 = v485 := (W_e W487)
        refine tt_gI (pc := 35) rw_215_35 (g_o hG489 rfl) (v := v485) c_491 ?_
        refine s_ial (pc := 38) rw_215_38 hG489 rfl (n := 5) rfl rfl (A := v485.toInt) rfl (by omega) (by omega) (lo := 0) (hi := 39) rfl rfl (fun v492 w_493 _ _ => ?_)
        refine to_an (pc := 39) rw_215_39 rfl ?_
        have c_494 : M488.2.1 77 44 = (M.2.1 77 44) := (W_n W487 (by decide) rfl)
        refine tt_gI (pc := 40) rw_215_40 (g_o hG489 rfl) (v := (M.2.1 77 44)) c_494 ?_
        refine s_ias (pc := 43) rw_215_43 hG489 rfl (n := 40) rfl (A := v492.toInt) rfl (by omega) (by omega) (fun M496 W495 => ?_)
        have hG497 := g_w hG489 W495 (A := (M.2.1 77 44).toInt) rfl (lo := 0) (hi := 40) rfl rfl (by omega) (by decide)
        have F498 := FR.w F490 W495 (show 105 = 77 ∧ ((v492.toInt).toNat = 4 ∨ (v492.toInt).toNat = 5 ∨ 7 ≤ (v492.toInt).toNat ∧ (v492.toInt).toNat ≤ 10) ∨ 105 = 77 ∧ ((v492.toInt).toNat = 44 ∨ (v492.toInt).toNat = 52) ∨ 101 ≤ 105 ∧ 105 ≤ 108 by omega)
        refine to_an (pc := 44) rw_215_44 rfl ?_
        refine s_v (pc := 45) rw_215_45 (dp0 hd (by decide)) (ls0 := [.ref 77]) rfl (Nat.le_of_ble_eq_true rfl) (Nat.le_of_ble_eq_true rfl) rfl (to_rc rfl rfl rfl (g_o hG497 rfl)) rfl ?_
        have c_499 : M496.2.1 77 7 = (M.2.1 77 7) := (W_n W495 (fun z => absurd z.1 (by decide)) (W_n W487 (by decide) rfl))
        have t_500 : (M496.2.1 77 7).toInt = (M.2.1 77 7).toInt := congrArg Int32.toInt c_499
        have c_501 : M496.2.1 77 6 = (M.2.1 77 6) := (W_n W495 (fun z => absurd z.1 (by decide)) (W_n W487 (by decide) rfl))
        have t_502 : (M496.2.1 77 6).toInt = (M.2.1 77 6).toInt := congrArg Int32.toInt c_501
        have c_503 : M496.2.1 77 10 = (M.2.1 77 10) := (W_n W495 (fun z => absurd z.1 (by decide)) (W_n W487 (by decide) rfl))
        have t_504 : (M496.2.1 77 10).toInt = (M.2.1 77 10).toInt := congrArg Int32.toInt c_503
        have j_505 := (RS_f (fun a i z => W_n W495 (tg_202 a i _ z) rfl) (RS_f (fun a i z => W_n W487 (tg_196 a i z) rfl) q1))
        have z_506 := RS_b j_505 (a := a) (by omega)
        have j_507 := (TR_f (fun a i z => W_n W495 (tg_203 a i _ z) rfl) (TR_f (fun a i z => W_n W487 (tg_198 a i z) rfl) q5))
        have j_508 := (W9_f (fun a i z => W_n W495 (tg_204 a i _ z) rfl) (W9_f (fun a i z => W_n W487 (tg_200 a i z) rfl) q6))
        refine E_156 hX (dp1 hd (by decide)) hG497 (by omega) (by omega) (by omega) (by omega) j_507 j_508  (fun M515 hG510 F509 p_511 p_512 p_513 p_514 => ?_)
        have F516 := FR.c F498 F509 tg_186
        have b_517 := g_b hG510 (a := 77) (i := 7) (lo := 0) (hi := 500) rfl rfl
        have c_518 : M515.2.1 77 6 = (M.2.1 77 6) := (F_n F509 (show ¬ (77 = 77 ∧ 7 ≤ 6 ∧ 6 ≤ 10) by decide) c_501)
        have t_519 : (M515.2.1 77 6).toInt = (M.2.1 77 6).toInt := congrArg Int32.toInt c_518
        have b_520 := g_b hG510 (a := 77) (i := 8) (lo := 0) (hi := 5) rfl rfl
        have b_521 := g_b hG510 (a := 77) (i := 10) (lo := 0) (hi := 500) rfl rfl
        have z_522 := RS_s p_514.2 (a := a) (by omega)
        refine to_c (pc := 48) rw_215_48 (x := (1 : Int32)) rfl rfl ?_
        refine s_r1 (pc := 49) rw_215_49 (A := 1) rfl (by decide) ?_
        have k_523 : (1 : Int32).toInt = 1 := rfl
        have c_524 : M515.2.1 77 44 = (M.2.1 77 44) := (F_n F509 (show ¬ (77 = 77 ∧ 7 ≤ 44 ∧ 44 ≤ 10) by decide) (W_n W495 (fun z => absurd z.1 (by decide)) c_494))
        have t_525 : (M515.2.1 77 44).toInt = (M.2.1 77 44).toInt := congrArg Int32.toInt c_524
        have c_526 : M515.2.1 77 52 = v485 := (F_n F509 (show ¬ (77 = 77 ∧ 7 ≤ 52 ∧ 52 ≤ 10) by decide) (W_n W495 (fun z => absurd z.1 (by decide)) c_491))
        have t_527 : (M515.2.1 77 52).toInt = v485.toInt := congrArg Int32.toInt c_526
        exact h (1 : Int32) M515 hG510 F516 (by decide) (by decide) (fun _ => p_514.1) (fun _ => WS_c (w := 0) (k := (v485.toInt).toNat) q11 q12 q13 q14 rfl (by omega) (by omega) (by omega) (by omega) (by omega) ((W_n W487 (by omega) rfl).symm.trans w_493) (fun r i z => (F_n F509 (show ¬ (r = 77 ∧ 7 ≤ i ∧ i ≤ 10) by omega) (W_n W495 (by omega) (W_n W487 (by omega) rfl)))) (fun i z => (F_n F509 (show ¬ (105 = 77 ∧ 7 ≤ i ∧ i ≤ 10) by omega) (W_n W495 (by omega) (W_n W487 (by omega) rfl)))) (by rw [show M515.2.1 105 (v492.toInt).toNat = (M.2.1 77 44) from (F_n F509 (show ¬ (105 = 77 ∧ 7 ≤ ((v492.toInt).toNat) ∧ ((v492.toInt).toNat) ≤ 10) by omega) (W_e W495))]; omega) (by omega) (by omega) (by omega)) (fun z => by exfalso; omega)
