theorem tg_168 : ∀ a i : Nat, (a = 77 ∧ 7 ≤ i ∧ i ≤ 10) → (a = 77 ∧ (i = 4 ∨ i = 5 ∨ 7 ≤ i ∧ i ≤ 10) ∨ a = 77 ∧ (i = 44 ∨ i = 52) ∨ 101 ≤ a ∧ a ≤ 108) := fun a i z => by omega
theorem tg_169 : ∀ a i : Nat, (a = 77 ∧ (i = 4 ∨ i = 5 ∨ 7 ≤ i ∧ i ≤ 10) ∨ 102 ≤ a ∧ a ≤ 104 ∨ a = 106 ∨ a = 107) → (a = 77 ∧ (i = 4 ∨ i = 5 ∨ 7 ≤ i ∧ i ≤ 10) ∨ a = 77 ∧ (i = 44 ∨ i = 52) ∨ 101 ≤ a ∧ a ≤ 108) := fun a i z => by omega
theorem tg_170 : ∀ a i : Nat, (a = 77 ∧ 6 ≤ i ∧ i ≤ 10) → ¬ (a = 77 ∧ i = 44) := fun a i z => by omega
theorem tg_171 : ∀ a i j : Nat, (a = 77 ∧ 6 ≤ i ∧ i ≤ 10) → ¬ (a = 101 ∧ i = j) := fun a i j z => by omega
theorem tg_172 : ∀ a i : Nat, a = 78 → ¬ (a = 77 ∧ i = 44) := fun a i z => by omega
theorem tg_173 : ∀ a i j : Nat, a = 78 → ¬ (a = 101 ∧ i = j) := fun a i j z => by omega
theorem tg_174 : ∀ a i : Nat, a = 79 → ¬ (a = 77 ∧ i = 44) := fun a i z => by omega
theorem tg_175 : ∀ a i j : Nat, a = 79 → ¬ (a = 101 ∧ i = j) := fun a i j z => by omega
theorem tg_176 : ∀ a i : Nat, (a = 77 ∧ 11 ≤ i ∧ i ≤ 13 ∨ 80 ≤ a ∧ a ≤ 84 ∧ i < 8 ∨ 85 ≤ a ∧ a ≤ 86 ∧ i < 12) → ¬ (a = 77 ∧ i = 44) := fun a i z => by omega
theorem tg_177 : ∀ a i j : Nat, (a = 77 ∧ 11 ≤ i ∧ i ≤ 13 ∨ 80 ≤ a ∧ a ≤ 84 ∧ i < 8 ∨ 85 ≤ a ∧ a ≤ 86 ∧ i < 12) → ¬ (a = 101 ∧ i = j) := fun a i j z => by omega
theorem tg_178 : ∀ a i : Nat, (a = 77 ∧ 6 ≤ i ∧ i ≤ 10) → ¬ (a = 77 ∧ i = 52) := fun a i z => by omega
theorem tg_179 : ∀ a i j : Nat, (a = 77 ∧ 6 ≤ i ∧ i ≤ 10) → ¬ (a = 108 ∧ i = j) := fun a i j z => by omega
theorem tg_180 : ∀ a i : Nat, a = 78 → ¬ (a = 77 ∧ i = 52) := fun a i z => by omega
theorem tg_181 : ∀ a i j : Nat, a = 78 → ¬ (a = 108 ∧ i = j) := fun a i j z => by omega
theorem tg_182 : ∀ a i : Nat, a = 79 → ¬ (a = 77 ∧ i = 52) := fun a i z => by omega
theorem tg_183 : ∀ a i j : Nat, a = 79 → ¬ (a = 108 ∧ i = j) := fun a i j z => by omega
theorem tg_184 : ∀ a i j : Nat, (a = 77 ∧ 6 ≤ i ∧ i ≤ 10) → ¬ (a = 105 ∧ i = j) := fun a i j z => by omega
theorem tg_185 : ∀ a i j : Nat, a = 78 → ¬ (a = 105 ∧ i = j) := fun a i j z => by omega
theorem tg_186 : ∀ a i j : Nat, a = 79 → ¬ (a = 105 ∧ i = j) := fun a i j z => by omega
set_option maxRecDepth 4000 in
set_option maxHeartbeats 0 in
theorem E_215 {X : mm_X} {d : Nat} {M : mm_M} {Q : Option Value → mm_M → Prop} {t : Nat → Int} {nn : Int} {a : Int} {sg : x_S} {n9 : Int} {op : List Int} {A9 : x_A} (hX : g_X X) (hd : 4 ≤ d) (hG : g_G M) (q1 : RS M t nn) (q2 : (M.2.1 77 10).toInt = a) (q3 : 0 ≤ nn) (q4 : nn ≤ 500) (q5 : TR M t nn) (q6 : W9 M) (q7 : PLk M sg) (q8 : (M.2.1 77 44).toInt = n9) (q9 : 0 ≤ n9) (q10 : ¬ (x_kind t nn a = 0 ∧ (M.2.1 77 52).toInt = 0)) (q11 : WKr M A9 n9 op) (q12 : OPR (orow M) op) (q13 : (op.length : Int) = (M.2.1 77 52).toInt) (q14 : ∀ m ∈ op, 0 ≤ m ∧ m < n9) (h : ∀ (r : Int32) (M1 : mm_M), g_G M1 → FR md_ac M M1 → (0 ≤ r.toInt) → (r.toInt ≤ 1) → ((r.toInt = 1 → RS M1 t nn)) → ((r.toInt = 1 → WS t nn sg (x_ww t nn sg 0 n9 op A9 a) M1)) → ((r.toInt = 0 → x_ww t nn sg 0 n9 op A9 a = Sum.inl ((M1.2.1 77 4).toInt, (M1.2.1 77 5).toInt))) → Q (some (.int r)) M1) : mm_T X d 214 0 [.ref 77, .null] [] M Q := by
  have F0 : FR md_ac M M := FR.rf
  have b_1 := g_b hG (a := 77) (i := 10) (lo := 0) (hi := 500) rfl rfl
  have b_2 := g_b hG (a := 77) (i := 44) (lo := 0) (hi := 40) rfl rfl
  have b_3 := g_b hG (a := 77) (i := 52) (lo := 0) (hi := 5) rfl rfl
  have b_4 := g_b hG (a := 77) (i := 8) (lo := 0) (hi := 5) rfl rfl
  have z_5 := RS_k q1 (a := a) (by omega)
  have b_6 := g_b hG (a := 77) (i := 6) (lo := 0) (hi := 500) rfl rfl
  have b_7 := g_b hG (a := 77) (i := 7) (lo := 0) (hi := 500) rfl rfl
  have z_8 := RS_b q1 (a := a) (by omega)
  have z_9 := q13
  refine to_an (pc := 0) rw_215_0 rfl ?_
  refine to_c (pc := 1) rw_215_1 (x := (41 : Int32)) rfl rfl ?_
  refine s_v (pc := 3) rw_215_3 (dp0 hd (by decide)) (ls0 := [.ref 77, .int (41 : Int32)]) rfl (Nat.le_of_ble_eq_true rfl) (Nat.le_of_ble_eq_true rfl) rfl (to_rc rfl rfl rfl (g_o hG rfl)) rfl ?_
  refine to_an (pc := 0) rw_159_0 rfl ?_
  refine tt_gI (pc := 1) rw_159_1 (g_o hG rfl) (v := (M.2.1 77 8)) rfl ?_
  refine to_c (pc := 4) rw_159_4 (x := (4 : Int32)) rfl rfl ?_
  refine b_cne (pc := 5) rw_159_5 (A := (M.2.1 77 8).toInt) (B := 4) rfl rfl (fun h10 => ?_) (fun h10 => ?_)
  · refine to_c (pc := 20) rw_159_20 (x := (0 : Int32)) rfl rfl ?_
    refine s_r1 (pc := 21) rw_159_21 (A := 0) rfl (by decide) ?_
    refine b_ieq_t (pc := 6) rw_215_6 (A := 0) rfl (by decide) ?_
    refine to_an (pc := 50) rw_215_50 rfl ?_
    refine tt_gI (pc := 51) rw_215_51 (g_o hG rfl) (v := (M.2.1 77 8)) rfl ?_
    refine to_c (pc := 54) rw_215_54 (x := (1 : Int32)) rfl rfl ?_
    refine b_cne (pc := 55) rw_215_55 (A := (M.2.1 77 8).toInt) (B := 1) rfl rfl (fun h11 => ?_) (fun h11 => ?_)
    · refine to_an (pc := 85) rw_215_85 rfl ?_
      refine to_c (pc := 86) rw_215_86 (x := (1 : Int32)) rfl rfl ?_
      refine s_v (pc := 87) rw_215_87 (dp0 hd (by decide)) (ls0 := [.ref 77, .int (1 : Int32)]) rfl (Nat.le_of_ble_eq_true rfl) (Nat.le_of_ble_eq_true rfl) rfl (to_rc rfl rfl rfl (g_o hG rfl)) rfl ?_
      refine to_an (pc := 0) rw_152_0 rfl ?_
      refine to_in (pc := 1) rw_152_1 rfl ?_
      refine s_pI (pc := 2) rw_152_2 hG rfl (fun M13 W12 => ?_)
      have hG14 := g_wf hG W12 rfl rfl (by decide)
      have F15 := FR.w F0 W12 (show 77 = 77 ∧ (4 = 4 ∨ 4 = 5 ∨ 7 ≤ 4 ∧ 4 ≤ 10) ∨ 77 = 77 ∧ (4 = 44 ∨ 4 = 52) ∨ 101 ≤ 77 ∧ 77 ≤ 108 by decide)
      refine to_an (pc := 5) rw_152_5 rfl ?_
      refine to_an (pc := 6) rw_152_6 rfl ?_
      have c_16 : M13.2.1 77 10 = (M.2.1 77 10) := (W_n W12 (by decide) rfl)
      refine tt_gI (pc := 7) rw_152_7 (g_o hG14 rfl) (v := (M.2.1 77 10)) c_16 ?_
      refine s_pI (pc := 10) rw_152_10 hG14 rfl (fun M18 W17 => ?_)
      have hG19 := g_wf hG14 W17 rfl rfl (by decide)
      have F20 := FR.w F15 W17 (show 77 = 77 ∧ (5 = 4 ∨ 5 = 5 ∨ 7 ≤ 5 ∧ 5 ≤ 10) ∨ 77 = 77 ∧ (5 = 44 ∨ 5 = 52) ∨ 101 ≤ 77 ∧ 77 ≤ 108 by decide)
      refine to_c (pc := 13) rw_152_13 (x := (0 : Int32)) rfl rfl ?_
      refine s_r1 (pc := 14) rw_152_14 (A := 0) rfl (by decide) ?_
      refine s_r1 (pc := 90) rw_215_90 (A := 0) rfl (by decide) ?_
      have k_21 : (0 : Int32).toInt = 0 := rfl
      have c_22 : M18.2.1 77 4 = (1 : Int32) := (W_n W17 (by decide) (W_e W12))
      have k_23 : (1 : Int32).toInt = 1 := rfl
      have t_24 : (M18.2.1 77 4).toInt = (1 : Int32).toInt := congrArg Int32.toInt c_22
      have c_25 : M18.2.1 77 5 = (M.2.1 77 10) := (W_e W17)
      have t_26 : (M18.2.1 77 5).toInt = (M.2.1 77 10).toInt := congrArg Int32.toInt c_25
      exact h (0 : Int32) M18 hG19 F20 (by decide) (by decide) (fun z => by exfalso; omega) (fun z => by exfalso; omega) (fun _ => winl (by omega) (by omega) (w_nx (by omega) (by omega) (by omega) (by omega) (by omega)))
    · refine to_an (pc := 58) rw_215_58 rfl ?_
      refine tt_gI (pc := 59) rw_215_59 (g_o hG rfl) (v := (M.2.1 77 9)) rfl ?_
      refine to_c (pc := 62) rw_215_62 (x := (7 : Int32)) rfl rfl ?_
      refine b_ceq (pc := 64) rw_215_64 (A := (M.2.1 77 9).toInt) (B := 7) rfl rfl (fun h27 => ?_) (fun h27 => ?_)
      · have z_28 := RS_1 q1 (a := a) (by omega) (by omega)
        refine to_an (pc := 91) rw_215_91 rfl ?_
        refine tt_gI (pc := 92) rw_215_92 (g_o hG rfl) (v := (M.2.1 77 44)) rfl ?_
        refine to_c (pc := 95) rw_215_95 (x := (40 : Int32)) rfl rfl ?_
        refine b_cne (pc := 97) rw_215_97 (A := (M.2.1 77 44).toInt) (B := 40) rfl rfl (fun h29 => ?_) (fun h29 => ?_)
        · refine to_an (pc := 106) rw_215_106 rfl ?_
          refine tt_gI (pc := 107) rw_215_107 (g_o hG rfl) (v := (M.2.1 77 44)) rfl ?_
          refine to_isn (pc := 110) rw_215_110 (ls2 := [.ref 77, .int (M.2.1 77 44)]) rfl rfl ?_
          refine to_an (pc := 111) rw_215_111 rfl ?_
          refine s_gR (pc := 112) rw_215_112 hG rfl (v := 101) rfl ?_
          refine to_in (pc := 115) rw_215_115 rfl ?_
          refine to_an (pc := 116) rw_215_116 rfl ?_
          refine tt_gI (pc := 117) rw_215_117 (g_o hG rfl) (v := (M.2.1 77 9)) rfl ?_
          refine to_c (pc := 120) rw_215_120 (x := (7 : Int32)) rfl rfl ?_
          refine b_cne_f (pc := 122) rw_215_122 (A := (M.2.1 77 9).toInt) (B := 7) rfl rfl (by omega) ?_
          refine to_c (pc := 125) rw_215_125 (x := (0 : Int32)) rfl rfl ?_
          refine to_go (pc := 126) rw_215_126 ?_
          refine s_ias (pc := 143) rw_215_143 hG rfl (n := 40) rfl (A := (M.2.1 77 44).toInt) rfl (by omega) (by omega) (fun M31 W30 => ?_)
          have hG32 := g_w hG W30 (A := 0) rfl (lo := 0) (hi := 2) rfl rfl (by omega) (by decide)
          have F33 := FR.w F0 W30 (show 101 = 77 ∧ (((M.2.1 77 44).toInt).toNat = 4 ∨ ((M.2.1 77 44).toInt).toNat = 5 ∨ 7 ≤ ((M.2.1 77 44).toInt).toNat ∧ ((M.2.1 77 44).toInt).toNat ≤ 10) ∨ 101 = 77 ∧ (((M.2.1 77 44).toInt).toNat = 44 ∨ ((M.2.1 77 44).toInt).toNat = 52) ∨ 101 ≤ 101 ∧ 101 ≤ 108 by omega)
          refine to_an (pc := 144) rw_215_144 rfl ?_
          refine to_dupr (pc := 145) rw_215_145 ?_
          have c_34 : M31.2.1 77 44 = (M.2.1 77 44) := (W_n W30 (fun z => absurd z.1 (by decide)) rfl)
          refine tt_gI (pc := 146) rw_215_146 (g_o hG32 rfl) (v := (M.2.1 77 44)) c_34 ?_
          refine to_c (pc := 149) rw_215_149 (x := (1 : Int32)) rfl rfl ?_
          refine s_add (pc := 150) rw_215_150 (A := (M.2.1 77 44).toInt) (B := 1) rfl rfl (by omega) (fun v35 e36 => ?_)
          refine s_pI (pc := 151) rw_215_151 hG32 rfl (fun M38 W37 => ?_)
          have hG39 := g_w hG32 W37 (A := v35.toInt) rfl (lo := 0) (hi := 40) rfl rfl (by omega) (by decide)
          have F40 := FR.w F33 W37 (show 77 = 77 ∧ (44 = 4 ∨ 44 = 5 ∨ 7 ≤ 44 ∧ 44 ≤ 10) ∨ 77 = 77 ∧ (44 = 44 ∨ 44 = 52) ∨ 101 ≤ 77 ∧ 77 ≤ 108 by decide)
          refine to_an (pc := 154) rw_215_154 rfl ?_
          refine s_v (pc := 155) rw_215_155 (dp0 hd (by decide)) (ls0 := [.ref 77]) rfl (Nat.le_of_ble_eq_true rfl) (Nat.le_of_ble_eq_true rfl) rfl (to_rc rfl rfl rfl (g_o hG39 rfl)) rfl ?_
          have c_41 : M38.2.1 77 7 = (M.2.1 77 7) := (W_n W37 (by decide) (W_n W30 (fun z => absurd z.1 (by decide)) rfl))
          have t_42 : (M38.2.1 77 7).toInt = (M.2.1 77 7).toInt := congrArg Int32.toInt c_41
          have c_43 : M38.2.1 77 6 = (M.2.1 77 6) := (W_n W37 (by decide) (W_n W30 (fun z => absurd z.1 (by decide)) rfl))
          have t_44 : (M38.2.1 77 6).toInt = (M.2.1 77 6).toInt := congrArg Int32.toInt c_43
          have c_45 : M38.2.1 77 10 = (M.2.1 77 10) := (W_n W37 (by decide) (W_n W30 (fun z => absurd z.1 (by decide)) rfl))
          have t_46 : (M38.2.1 77 10).toInt = (M.2.1 77 10).toInt := congrArg Int32.toInt c_45
          have j_47 := (RS_f (fun a i z => W_n W37 (tg_170 a i z) rfl) (RS_f (fun a i z => W_n W30 (tg_171 a i _ z) rfl) q1))
          have z_48 := RS_b j_47 (a := a) (by omega)
          have j_49 := (TR_f (fun a i z => W_n W37 (tg_172 a i z) rfl) (TR_f (fun a i z => W_n W30 (tg_173 a i _ z) rfl) q5))
          have j_50 := (W9_f (fun a i z => W_n W37 (tg_174 a i z) rfl) (W9_f (fun a i z => W_n W30 (tg_175 a i _ z) rfl) q6))
          refine E_156 hX (dp1 hd (by decide)) hG39 (by omega) (by omega) (by omega) (by omega) j_49 j_50  (fun M57 hG52 F51 p_53 p_54 p_55 p_56 => ?_)
          have F58 := FR.c F40 F51 tg_168
          have b_59 := g_b hG52 (a := 77) (i := 7) (lo := 0) (hi := 500) rfl rfl
          have c_60 : M57.2.1 77 6 = (M.2.1 77 6) := (F_n F51 (show ¬ (77 = 77 ∧ 7 ≤ 6 ∧ 6 ≤ 10) by decide) c_43)
          have t_61 : (M57.2.1 77 6).toInt = (M.2.1 77 6).toInt := congrArg Int32.toInt c_60
          have b_62 := g_b hG52 (a := 77) (i := 8) (lo := 0) (hi := 5) rfl rfl
          have b_63 := g_b hG52 (a := 77) (i := 10) (lo := 0) (hi := 500) rfl rfl
          have z_64 := RS_s p_56.2 (a := a) (by omega)
          refine to_an (pc := 158) rw_215_158 rfl ?_
          refine s_gR (pc := 159) rw_215_159 hG52 rfl (v := 101) rfl ?_
          refine to_in (pc := 162) rw_215_162 rfl ?_
          refine s_ialk (pc := 163) rw_215_163 hG52 rfl (n := 40) rfl rfl (A := (M.2.1 77 44).toInt) rfl (by omega) (by omega) (v := (0 : Int32)) (F_n F51 (show ¬ (101 = 77 ∧ 7 ≤ ((M.2.1 77 44).toInt).toNat ∧ ((M.2.1 77 44).toInt).toNat ≤ 10) by omega) (W_n W37 (by omega) (W_e W30))) ?_
          refine b_ine_f (pc := 164) rw_215_164 (A := 0) rfl (by decide) ?_
          refine to_an (pc := 167) rw_215_167 rfl ?_
          refine to_in (pc := 168) rw_215_168 rfl ?_
          refine s_v (pc := 169) rw_215_169 (dp0 hd (by decide)) (ls0 := [.ref 77, .int (M.2.1 77 44)]) rfl (Nat.le_of_ble_eq_true rfl) (Nat.le_of_ble_eq_true rfl) rfl (to_rc rfl rfl rfl (g_o hG52 rfl)) rfl ?_
          have j_67 := (TR_f (tg_42 F51) j_49)
          have j_68 := (W9_f (tg_44 F51) j_50)
          have j_69 := (PLk_f (tg_138 F51) (PLk_f (fun a i z => W_n W37 (tg_176 a i z) rfl) (PLk_f (fun a i z => W_n W30 (tg_177 a i _ z) rfl) q7)))
          refine E_213 hX (dp1 hd (by decide)) hG52 (by omega) (by omega) p_56.1 (by omega) (by omega) (by omega) j_67 j_68 j_69 (e := (M.2.1 77 44)) (t := t) (nn := nn) (a := (x_ns t nn a)) (sg := sg) (n9 := (n9 + 1)) (op := op) (A9 := (x_k1 A9 n9 0)) (fun r70 M79 hG72 F71 p_73 p_74 p_75 p_76 p_77 p_78 => ?_)
          have F80 := FR.c F58 F71 tg_169
          rcases (show r70.toInt = 0 ∨ r70.toInt = 1 by omega) with h81 | h81
          · skip
            have p_82 := p_78 (by omega)
            clear p_75 p_77 p_78
            have z_83 := (w_ps (by omega) (by omega) (by omega) (by omega) (by omega)).trans p_82
            refine s_r1 (pc := 172) rw_215_172 (A := r70.toInt) rfl (by omega) ?_
            exact h r70 M79 hG72 F80 (by omega) (by omega) (fun z => by exfalso; omega) (fun z => by exfalso; omega) (fun _ => winl (by omega) (by omega) z_83)
          · skip
            have p_84 := p_75 (by omega)
            have p_85 := p_77 (by omega)
            clear p_75 p_77 p_78
            have z_86 := (w_ps (by omega) (by omega) (by omega) (by omega) (by omega)).trans p_85
            refine s_r1 (pc := 172) rw_215_172 (A := r70.toInt) rfl (by omega) ?_
            have b_87 := g_b hG72 (a := 77) (i := 10) (lo := 0) (hi := 500) rfl rfl
            have c_88 : M79.2.1 77 44 = v35 := (F_n F71 (show ¬ (77 = 77 ∧ (44 = 4 ∨ 44 = 5 ∨ 7 ≤ 44 ∧ 44 ≤ 10) ∨ 102 ≤ 77 ∧ 77 ≤ 104 ∨ 77 = 106 ∨ 77 = 107) by decide) (F_n F51 (show ¬ (77 = 77 ∧ 7 ≤ 44 ∧ 44 ≤ 10) by decide) (W_e W37)))
            have t_89 : (M79.2.1 77 44).toInt = v35.toInt := congrArg Int32.toInt c_88
            have c_90 : M79.2.1 77 52 = (M.2.1 77 52) := (F_n F71 (show ¬ (77 = 77 ∧ (52 = 4 ∨ 52 = 5 ∨ 7 ≤ 52 ∧ 52 ≤ 10) ∨ 102 ≤ 77 ∧ 77 ≤ 104 ∨ 77 = 106 ∨ 77 = 107) by decide) (F_n F51 (show ¬ (77 = 77 ∧ 7 ≤ 52 ∧ 52 ≤ 10) by decide) (W_n W37 (by decide) (W_n W30 (fun z => absurd z.1 (by decide)) rfl))))
            have t_91 : (M79.2.1 77 52).toInt = (M.2.1 77 52).toInt := congrArg Int32.toInt c_90
            have k_92 : (0 : Int32).toInt = 0 := rfl
            exact h r70 M79 hG72 F80 (by omega) (by omega) (fun _ => p_84) (fun _ => WS_p (k := 0) (by decide) (by omega) q11 q12 q13 q14 (fun r i z z2 => by
                by_cases e : r = 101
                · subst e; exact (F_n F71 (show ¬ (101 = 77 ∧ (i = 4 ∨ i = 5 ∨ 7 ≤ i ∧ i ≤ 10) ∨ 102 ≤ 101 ∧ 101 ≤ 104 ∨ 101 = 106 ∨ 101 = 107) by omega) (F_n F51 (show ¬ (101 = 77 ∧ 7 ≤ i ∧ i ≤ 10) by omega) (W_n W37 (by omega) (W_n W30 (by omega) rfl))))
                · exact (p_76 r i (by omega) (by omega)).trans (F_n F51 (show ¬ (r = 77 ∧ 7 ≤ i ∧ i ≤ 10) by omega) (W_n W37 (by omega) (W_n W30 (by omega) rfl)))) (by rw [show n9.toNat = ((M.2.1 77 44).toInt).toNat by omega, show M79.2.1 101 ((M.2.1 77 44).toInt).toNat = (0 : Int32) from (F_n F71 (show ¬ (101 = 77 ∧ (((M.2.1 77 44).toInt).toNat = 4 ∨ ((M.2.1 77 44).toInt).toNat = 5 ∨ 7 ≤ ((M.2.1 77 44).toInt).toNat ∧ ((M.2.1 77 44).toInt).toNat ≤ 10) ∨ 102 ≤ 101 ∧ 101 ≤ 104 ∨ 101 = 106 ∨ 101 = 107) by omega) (F_n F51 (show ¬ (101 = 77 ∧ 7 ≤ ((M.2.1 77 44).toInt).toNat ∧ ((M.2.1 77 44).toInt).toNat ≤ 10) by omega) (W_n W37 (by omega) (W_e W30))))]; exact (show (0 : Int32).toInt = 0 by omega)) (fun r i z => (F_n F71 (show ¬ (r = 77 ∧ (i = 4 ∨ i = 5 ∨ 7 ≤ i ∧ i ≤ 10) ∨ 102 ≤ r ∧ r ≤ 104 ∨ r = 106 ∨ r = 107) by omega) (F_n F51 (show ¬ (r = 77 ∧ 7 ≤ i ∧ i ≤ 10) by omega) (W_n W37 (by omega) (W_n W30 (by omega) rfl))))) (by omega) (by omega) z_86) (fun z => by exfalso; omega)
        · refine to_an (pc := 100) rw_215_100 rfl ?_
          refine to_c (pc := 101) rw_215_101 (x := (2 : Int32)) rfl rfl ?_
          refine s_v (pc := 102) rw_215_102 (dp0 hd (by decide)) (ls0 := [.ref 77, .int (2 : Int32)]) rfl (Nat.le_of_ble_eq_true rfl) (Nat.le_of_ble_eq_true rfl) rfl (to_rc rfl rfl rfl (g_o hG rfl)) rfl ?_
          refine to_an (pc := 0) rw_152_0 rfl ?_
          refine to_in (pc := 1) rw_152_1 rfl ?_
          refine s_pI (pc := 2) rw_152_2 hG rfl (fun M94 W93 => ?_)
          have hG95 := g_wf hG W93 rfl rfl (by decide)
          have F96 := FR.w F0 W93 (show 77 = 77 ∧ (4 = 4 ∨ 4 = 5 ∨ 7 ≤ 4 ∧ 4 ≤ 10) ∨ 77 = 77 ∧ (4 = 44 ∨ 4 = 52) ∨ 101 ≤ 77 ∧ 77 ≤ 108 by decide)
          refine to_an (pc := 5) rw_152_5 rfl ?_
          refine to_an (pc := 6) rw_152_6 rfl ?_
          have c_97 : M94.2.1 77 10 = (M.2.1 77 10) := (W_n W93 (by decide) rfl)
          refine tt_gI (pc := 7) rw_152_7 (g_o hG95 rfl) (v := (M.2.1 77 10)) c_97 ?_
          refine s_pI (pc := 10) rw_152_10 hG95 rfl (fun M99 W98 => ?_)
          have hG100 := g_wf hG95 W98 rfl rfl (by decide)
          have F101 := FR.w F96 W98 (show 77 = 77 ∧ (5 = 4 ∨ 5 = 5 ∨ 7 ≤ 5 ∧ 5 ≤ 10) ∨ 77 = 77 ∧ (5 = 44 ∨ 5 = 52) ∨ 101 ≤ 77 ∧ 77 ≤ 108 by decide)
          refine to_c (pc := 13) rw_152_13 (x := (0 : Int32)) rfl rfl ?_
          refine s_r1 (pc := 14) rw_152_14 (A := 0) rfl (by decide) ?_
          refine s_r1 (pc := 105) rw_215_105 (A := 0) rfl (by decide) ?_
          have k_102 : (0 : Int32).toInt = 0 := rfl
          have c_103 : M99.2.1 77 4 = (2 : Int32) := (W_n W98 (by decide) (W_e W93))
          have k_104 : (2 : Int32).toInt = 2 := rfl
          have t_105 : (M99.2.1 77 4).toInt = (2 : Int32).toInt := congrArg Int32.toInt c_103
          have c_106 : M99.2.1 77 5 = (M.2.1 77 10) := (W_e W98)
          have t_107 : (M99.2.1 77 5).toInt = (M.2.1 77 10).toInt := congrArg Int32.toInt c_106
          exact h (0 : Int32) M99 hG100 F101 (by decide) (by decide) (fun z => by exfalso; omega) (fun z => by exfalso; omega) (fun _ => winl (by omega) (by omega) (w_40 (by omega) (by omega) (by omega) (by omega) (by omega)))
      · refine to_an (pc := 67) rw_215_67 rfl ?_
        refine tt_gI (pc := 68) rw_215_68 (g_o hG rfl) (v := (M.2.1 77 9)) rfl ?_
        refine to_c (pc := 71) rw_215_71 (x := (10 : Int32)) rfl rfl ?_
        refine b_ceq (pc := 73) rw_215_73 (A := (M.2.1 77 9).toInt) (B := 10) rfl rfl (fun h108 => ?_) (fun h108 => ?_)
        · have z_109 := RS_1 q1 (a := a) (by omega) (by omega)
          refine to_an (pc := 91) rw_215_91 rfl ?_
          refine tt_gI (pc := 92) rw_215_92 (g_o hG rfl) (v := (M.2.1 77 44)) rfl ?_
          refine to_c (pc := 95) rw_215_95 (x := (40 : Int32)) rfl rfl ?_
          refine b_cne (pc := 97) rw_215_97 (A := (M.2.1 77 44).toInt) (B := 40) rfl rfl (fun h110 => ?_) (fun h110 => ?_)
          · refine to_an (pc := 106) rw_215_106 rfl ?_
            refine tt_gI (pc := 107) rw_215_107 (g_o hG rfl) (v := (M.2.1 77 44)) rfl ?_
            refine to_isn (pc := 110) rw_215_110 (ls2 := [.ref 77, .int (M.2.1 77 44)]) rfl rfl ?_
            refine to_an (pc := 111) rw_215_111 rfl ?_
            refine s_gR (pc := 112) rw_215_112 hG rfl (v := 101) rfl ?_
            refine to_in (pc := 115) rw_215_115 rfl ?_
            refine to_an (pc := 116) rw_215_116 rfl ?_
            refine tt_gI (pc := 117) rw_215_117 (g_o hG rfl) (v := (M.2.1 77 9)) rfl ?_
            refine to_c (pc := 120) rw_215_120 (x := (7 : Int32)) rfl rfl ?_
            refine b_cne_t (pc := 122) rw_215_122 (A := (M.2.1 77 9).toInt) (B := 7) rfl rfl (by omega) ?_
            refine to_an (pc := 129) rw_215_129 rfl ?_
            refine tt_gI (pc := 130) rw_215_130 (g_o hG rfl) (v := (M.2.1 77 9)) rfl ?_
            refine to_c (pc := 133) rw_215_133 (x := (10 : Int32)) rfl rfl ?_
            refine b_cne_f (pc := 135) rw_215_135 (A := (M.2.1 77 9).toInt) (B := 10) rfl rfl (by omega) ?_
            refine to_c (pc := 138) rw_215_138 (x := (1 : Int32)) rfl rfl ?_
            refine to_go (pc := 139) rw_215_139 ?_
            refine s_ias (pc := 143) rw_215_143 hG rfl (n := 40) rfl (A := (M.2.1 77 44).toInt) rfl (by omega) (by omega) (fun M112 W111 => ?_)
            have hG113 := g_w hG W111 (A := 1) rfl (lo := 0) (hi := 2) rfl rfl (by omega) (by decide)
            have F114 := FR.w F0 W111 (show 101 = 77 ∧ (((M.2.1 77 44).toInt).toNat = 4 ∨ ((M.2.1 77 44).toInt).toNat = 5 ∨ 7 ≤ ((M.2.1 77 44).toInt).toNat ∧ ((M.2.1 77 44).toInt).toNat ≤ 10) ∨ 101 = 77 ∧ (((M.2.1 77 44).toInt).toNat = 44 ∨ ((M.2.1 77 44).toInt).toNat = 52) ∨ 101 ≤ 101 ∧ 101 ≤ 108 by omega)
            refine to_an (pc := 144) rw_215_144 rfl ?_
            refine to_dupr (pc := 145) rw_215_145 ?_
            have c_115 : M112.2.1 77 44 = (M.2.1 77 44) := (W_n W111 (fun z => absurd z.1 (by decide)) rfl)
            refine tt_gI (pc := 146) rw_215_146 (g_o hG113 rfl) (v := (M.2.1 77 44)) c_115 ?_
            refine to_c (pc := 149) rw_215_149 (x := (1 : Int32)) rfl rfl ?_
            refine s_add (pc := 150) rw_215_150 (A := (M.2.1 77 44).toInt) (B := 1) rfl rfl (by omega) (fun v116 e117 => ?_)
            refine s_pI (pc := 151) rw_215_151 hG113 rfl (fun M119 W118 => ?_)
            have hG120 := g_w hG113 W118 (A := v116.toInt) rfl (lo := 0) (hi := 40) rfl rfl (by omega) (by decide)
            have F121 := FR.w F114 W118 (show 77 = 77 ∧ (44 = 4 ∨ 44 = 5 ∨ 7 ≤ 44 ∧ 44 ≤ 10) ∨ 77 = 77 ∧ (44 = 44 ∨ 44 = 52) ∨ 101 ≤ 77 ∧ 77 ≤ 108 by decide)
            refine to_an (pc := 154) rw_215_154 rfl ?_
            refine s_v (pc := 155) rw_215_155 (dp0 hd (by decide)) (ls0 := [.ref 77]) rfl (Nat.le_of_ble_eq_true rfl) (Nat.le_of_ble_eq_true rfl) rfl (to_rc rfl rfl rfl (g_o hG120 rfl)) rfl ?_
            have c_122 : M119.2.1 77 7 = (M.2.1 77 7) := (W_n W118 (by decide) (W_n W111 (fun z => absurd z.1 (by decide)) rfl))
            have t_123 : (M119.2.1 77 7).toInt = (M.2.1 77 7).toInt := congrArg Int32.toInt c_122
            have c_124 : M119.2.1 77 6 = (M.2.1 77 6) := (W_n W118 (by decide) (W_n W111 (fun z => absurd z.1 (by decide)) rfl))
            have t_125 : (M119.2.1 77 6).toInt = (M.2.1 77 6).toInt := congrArg Int32.toInt c_124
            have c_126 : M119.2.1 77 10 = (M.2.1 77 10) := (W_n W118 (by decide) (W_n W111 (fun z => absurd z.1 (by decide)) rfl))
            have t_127 : (M119.2.1 77 10).toInt = (M.2.1 77 10).toInt := congrArg Int32.toInt c_126
            have j_128 := (RS_f (fun a i z => W_n W118 (tg_170 a i z) rfl) (RS_f (fun a i z => W_n W111 (tg_171 a i _ z) rfl) q1))
            have z_129 := RS_b j_128 (a := a) (by omega)
            have j_130 := (TR_f (fun a i z => W_n W118 (tg_172 a i z) rfl) (TR_f (fun a i z => W_n W111 (tg_173 a i _ z) rfl) q5))
            have j_131 := (W9_f (fun a i z => W_n W118 (tg_174 a i z) rfl) (W9_f (fun a i z => W_n W111 (tg_175 a i _ z) rfl) q6))
            refine E_156 hX (dp1 hd (by decide)) hG120 (by omega) (by omega) (by omega) (by omega) j_130 j_131  (fun M138 hG133 F132 p_134 p_135 p_136 p_137 => ?_)
            have F139 := FR.c F121 F132 tg_168
            have b_140 := g_b hG133 (a := 77) (i := 7) (lo := 0) (hi := 500) rfl rfl
            have c_141 : M138.2.1 77 6 = (M.2.1 77 6) := (F_n F132 (show ¬ (77 = 77 ∧ 7 ≤ 6 ∧ 6 ≤ 10) by decide) c_124)
            have t_142 : (M138.2.1 77 6).toInt = (M.2.1 77 6).toInt := congrArg Int32.toInt c_141
            have b_143 := g_b hG133 (a := 77) (i := 8) (lo := 0) (hi := 5) rfl rfl
            have b_144 := g_b hG133 (a := 77) (i := 10) (lo := 0) (hi := 500) rfl rfl
            have z_145 := RS_s p_137.2 (a := a) (by omega)
            refine to_an (pc := 158) rw_215_158 rfl ?_
            refine s_gR (pc := 159) rw_215_159 hG133 rfl (v := 101) rfl ?_
            refine to_in (pc := 162) rw_215_162 rfl ?_
            refine s_ialk (pc := 163) rw_215_163 hG133 rfl (n := 40) rfl rfl (A := (M.2.1 77 44).toInt) rfl (by omega) (by omega) (v := (1 : Int32)) (F_n F132 (show ¬ (101 = 77 ∧ 7 ≤ ((M.2.1 77 44).toInt).toNat ∧ ((M.2.1 77 44).toInt).toNat ≤ 10) by omega) (W_n W118 (by omega) (W_e W111))) ?_
            refine b_ine_t (pc := 164) rw_215_164 (A := 1) rfl (by decide) ?_
            refine to_an (pc := 173) rw_215_173 rfl ?_
            refine s_gR (pc := 174) rw_215_174 hG133 rfl (v := 101) rfl ?_
            refine to_in (pc := 177) rw_215_177 rfl ?_
            refine s_ialk (pc := 178) rw_215_178 hG133 rfl (n := 40) rfl rfl (A := (M.2.1 77 44).toInt) rfl (by omega) (by omega) (v := (1 : Int32)) (F_n F132 (show ¬ (101 = 77 ∧ 7 ≤ ((M.2.1 77 44).toInt).toNat ∧ ((M.2.1 77 44).toInt).toNat ≤ 10) by omega) (W_n W118 (by omega) (W_e W111))) ?_
            refine to_c (pc := 179) rw_215_179 (x := (1 : Int32)) rfl rfl ?_
            refine b_cne_f (pc := 180) rw_215_180 (A := 1) (B := 1) rfl rfl (by decide) ?_
            refine to_an (pc := 183) rw_215_183 rfl ?_
            refine to_in (pc := 184) rw_215_184 rfl ?_
            refine s_v (pc := 185) rw_215_185 (dp0 hd (by decide)) (ls0 := [.ref 77, .int (M.2.1 77 44)]) rfl (Nat.le_of_ble_eq_true rfl) (Nat.le_of_ble_eq_true rfl) rfl (to_rc rfl rfl rfl (g_o hG133 rfl)) rfl ?_
            have j_150 := (TR_f (tg_42 F132) j_130)
            have j_151 := (W9_f (tg_44 F132) j_131)
            refine E_214 hX (dp1 hd (by decide)) hG133 (by omega) (by omega) p_137.1 (by omega) (by omega) (by omega) j_150 j_151 (e := (M.2.1 77 44)) (t := t) (nn := nn) (a := (x_ns t nn a)) (fun r152 M161 hG154 F153 p_155 p_156 p_157 p_158 p_159 p_160 => ?_)
            have F162 := FR.c F139 F153 tg_169
            rcases (show r152.toInt = 0 ∨ r152.toInt = 1 by omega) with h163 | h163
            · skip
              have p_164 := p_160 (by omega)
              clear p_157 p_159 p_160
              have z_165 := (w_jn (by omega) (by omega) (by omega) (by omega) (by omega)).trans (p_164 (x_ww t nn sg 0 (n9 + 1) op (x_k1 A9 n9 1)))
              refine s_r1 (pc := 188) rw_215_188 (A := r152.toInt) rfl (by omega) ?_
              exact h r152 M161 hG154 F162 (by omega) (by omega) (fun z => by exfalso; omega) (fun z => by exfalso; omega) (fun _ => winl (by omega) (by omega) z_165)
            · skip
              have p_166 := p_157 (by omega)
              have p_167 := p_159 (by omega)
              clear p_157 p_159 p_160
              have z_168 := (w_jn (by omega) (by omega) (by omega) (by omega) (by omega)).trans (p_167 (x_ww t nn sg 0 (n9 + 1) op (x_k1 A9 n9 1)))
              refine s_r1 (pc := 188) rw_215_188 (A := r152.toInt) rfl (by omega) ?_
              have b_169 := g_b hG154 (a := 77) (i := 10) (lo := 0) (hi := 500) rfl rfl
              have c_170 : M161.2.1 77 44 = v116 := (F_n F153 (show ¬ (77 = 77 ∧ (44 = 4 ∨ 44 = 5 ∨ 7 ≤ 44 ∧ 44 ≤ 10) ∨ 102 ≤ 77 ∧ 77 ≤ 104 ∨ 77 = 106 ∨ 77 = 107) by decide) (F_n F132 (show ¬ (77 = 77 ∧ 7 ≤ 44 ∧ 44 ≤ 10) by decide) (W_e W118)))
              have t_171 : (M161.2.1 77 44).toInt = v116.toInt := congrArg Int32.toInt c_170
              have c_172 : M161.2.1 77 52 = (M.2.1 77 52) := (F_n F153 (show ¬ (77 = 77 ∧ (52 = 4 ∨ 52 = 5 ∨ 7 ≤ 52 ∧ 52 ≤ 10) ∨ 102 ≤ 77 ∧ 77 ≤ 104 ∨ 77 = 106 ∨ 77 = 107) by decide) (F_n F132 (show ¬ (77 = 77 ∧ 7 ≤ 52 ∧ 52 ≤ 10) by decide) (W_n W118 (by decide) (W_n W111 (fun z => absurd z.1 (by decide)) rfl))))
              have t_173 : (M161.2.1 77 52).toInt = (M.2.1 77 52).toInt := congrArg Int32.toInt c_172
              have k_174 : (1 : Int32).toInt = 1 := rfl
              exact h r152 M161 hG154 F162 (by omega) (by omega) (fun _ => p_166) (fun _ => WS_p (k := 1) (by decide) (by omega) q11 q12 q13 q14 (fun r i z z2 => by
                  by_cases e : r = 101
                  · subst e; exact (F_n F153 (show ¬ (101 = 77 ∧ (i = 4 ∨ i = 5 ∨ 7 ≤ i ∧ i ≤ 10) ∨ 102 ≤ 101 ∧ 101 ≤ 104 ∨ 101 = 106 ∨ 101 = 107) by omega) (F_n F132 (show ¬ (101 = 77 ∧ 7 ≤ i ∧ i ≤ 10) by omega) (W_n W118 (by omega) (W_n W111 (by omega) rfl))))
                  · exact (p_158 r i (by omega) (by omega)).trans (F_n F132 (show ¬ (r = 77 ∧ 7 ≤ i ∧ i ≤ 10) by omega) (W_n W118 (by omega) (W_n W111 (by omega) rfl)))) (by rw [show n9.toNat = ((M.2.1 77 44).toInt).toNat by omega, show M161.2.1 101 ((M.2.1 77 44).toInt).toNat = (1 : Int32) from (F_n F153 (show ¬ (101 = 77 ∧ (((M.2.1 77 44).toInt).toNat = 4 ∨ ((M.2.1 77 44).toInt).toNat = 5 ∨ 7 ≤ ((M.2.1 77 44).toInt).toNat ∧ ((M.2.1 77 44).toInt).toNat ≤ 10) ∨ 102 ≤ 101 ∧ 101 ≤ 104 ∨ 101 = 106 ∨ 101 = 107) by omega) (F_n F132 (show ¬ (101 = 77 ∧ 7 ≤ ((M.2.1 77 44).toInt).toNat ∧ ((M.2.1 77 44).toInt).toNat ≤ 10) by omega) (W_n W118 (by omega) (W_e W111))))]; exact (show (1 : Int32).toInt = 1 by omega)) (fun r i z => (F_n F153 (show ¬ (r = 77 ∧ (i = 4 ∨ i = 5 ∨ 7 ≤ i ∧ i ≤ 10) ∨ 102 ≤ r ∧ r ≤ 104 ∨ r = 106 ∨ r = 107) by omega) (F_n F132 (show ¬ (r = 77 ∧ 7 ≤ i ∧ i ≤ 10) by omega) (W_n W118 (by omega) (W_n W111 (by omega) rfl))))) (by omega) (by omega) z_168) (fun z => by exfalso; omega)
          · refine to_an (pc := 100) rw_215_100 rfl ?_
            refine to_c (pc := 101) rw_215_101 (x := (2 : Int32)) rfl rfl ?_
            refine s_v (pc := 102) rw_215_102 (dp0 hd (by decide)) (ls0 := [.ref 77, .int (2 : Int32)]) rfl (Nat.le_of_ble_eq_true rfl) (Nat.le_of_ble_eq_true rfl) rfl (to_rc rfl rfl rfl (g_o hG rfl)) rfl ?_
            refine to_an (pc := 0) rw_152_0 rfl ?_
            refine to_in (pc := 1) rw_152_1 rfl ?_
            refine s_pI (pc := 2) rw_152_2 hG rfl (fun M176 W175 => ?_)
            have hG177 := g_wf hG W175 rfl rfl (by decide)
            have F178 := FR.w F0 W175 (show 77 = 77 ∧ (4 = 4 ∨ 4 = 5 ∨ 7 ≤ 4 ∧ 4 ≤ 10) ∨ 77 = 77 ∧ (4 = 44 ∨ 4 = 52) ∨ 101 ≤ 77 ∧ 77 ≤ 108 by decide)
            refine to_an (pc := 5) rw_152_5 rfl ?_
            refine to_an (pc := 6) rw_152_6 rfl ?_
            have c_179 : M176.2.1 77 10 = (M.2.1 77 10) := (W_n W175 (by decide) rfl)
            refine tt_gI (pc := 7) rw_152_7 (g_o hG177 rfl) (v := (M.2.1 77 10)) c_179 ?_
            refine s_pI (pc := 10) rw_152_10 hG177 rfl (fun M181 W180 => ?_)
            have hG182 := g_wf hG177 W180 rfl rfl (by decide)
            have F183 := FR.w F178 W180 (show 77 = 77 ∧ (5 = 4 ∨ 5 = 5 ∨ 7 ≤ 5 ∧ 5 ≤ 10) ∨ 77 = 77 ∧ (5 = 44 ∨ 5 = 52) ∨ 101 ≤ 77 ∧ 77 ≤ 108 by decide)
            refine to_c (pc := 13) rw_152_13 (x := (0 : Int32)) rfl rfl ?_
            refine s_r1 (pc := 14) rw_152_14 (A := 0) rfl (by decide) ?_
            refine s_r1 (pc := 105) rw_215_105 (A := 0) rfl (by decide) ?_
            have k_184 : (0 : Int32).toInt = 0 := rfl
            have c_185 : M181.2.1 77 4 = (2 : Int32) := (W_n W180 (by decide) (W_e W175))
            have k_186 : (2 : Int32).toInt = 2 := rfl
            have t_187 : (M181.2.1 77 4).toInt = (2 : Int32).toInt := congrArg Int32.toInt c_185
            have c_188 : M181.2.1 77 5 = (M.2.1 77 10) := (W_e W180)
            have t_189 : (M181.2.1 77 5).toInt = (M.2.1 77 10).toInt := congrArg Int32.toInt c_188
            exact h (0 : Int32) M181 hG182 F183 (by decide) (by decide) (fun z => by exfalso; omega) (fun z => by exfalso; omega) (fun _ => winl (by omega) (by omega) (w_40 (by omega) (by omega) (by omega) (by omega) (by omega)))
        · refine to_an (pc := 76) rw_215_76 rfl ?_
          refine tt_gI (pc := 77) rw_215_77 (g_o hG rfl) (v := (M.2.1 77 9)) rfl ?_
          refine to_c (pc := 80) rw_215_80 (x := (11 : Int32)) rfl rfl ?_
          refine b_ceq (pc := 82) rw_215_82 (A := (M.2.1 77 9).toInt) (B := 11) rfl rfl (fun h190 => ?_) (fun h190 => ?_)
          · have z_191 := RS_1 q1 (a := a) (by omega) (by omega)
            refine to_an (pc := 91) rw_215_91 rfl ?_
            refine tt_gI (pc := 92) rw_215_92 (g_o hG rfl) (v := (M.2.1 77 44)) rfl ?_
            refine to_c (pc := 95) rw_215_95 (x := (40 : Int32)) rfl rfl ?_
            refine b_cne (pc := 97) rw_215_97 (A := (M.2.1 77 44).toInt) (B := 40) rfl rfl (fun h192 => ?_) (fun h192 => ?_)
            · refine to_an (pc := 106) rw_215_106 rfl ?_
              refine tt_gI (pc := 107) rw_215_107 (g_o hG rfl) (v := (M.2.1 77 44)) rfl ?_
              refine to_isn (pc := 110) rw_215_110 (ls2 := [.ref 77, .int (M.2.1 77 44)]) rfl rfl ?_
              refine to_an (pc := 111) rw_215_111 rfl ?_
              refine s_gR (pc := 112) rw_215_112 hG rfl (v := 101) rfl ?_
              refine to_in (pc := 115) rw_215_115 rfl ?_
              refine to_an (pc := 116) rw_215_116 rfl ?_
              refine tt_gI (pc := 117) rw_215_117 (g_o hG rfl) (v := (M.2.1 77 9)) rfl ?_
              refine to_c (pc := 120) rw_215_120 (x := (7 : Int32)) rfl rfl ?_
              refine b_cne_t (pc := 122) rw_215_122 (A := (M.2.1 77 9).toInt) (B := 7) rfl rfl (by omega) ?_
              refine to_an (pc := 129) rw_215_129 rfl ?_
              refine tt_gI (pc := 130) rw_215_130 (g_o hG rfl) (v := (M.2.1 77 9)) rfl ?_
              refine to_c (pc := 133) rw_215_133 (x := (10 : Int32)) rfl rfl ?_
              refine b_cne_t (pc := 135) rw_215_135 (A := (M.2.1 77 9).toInt) (B := 10) rfl rfl (by omega) ?_
              refine to_c (pc := 142) rw_215_142 (x := (2 : Int32)) rfl rfl ?_
              refine s_ias (pc := 143) rw_215_143 hG rfl (n := 40) rfl (A := (M.2.1 77 44).toInt) rfl (by omega) (by omega) (fun M194 W193 => ?_)
              have hG195 := g_w hG W193 (A := 2) rfl (lo := 0) (hi := 2) rfl rfl (by omega) (by decide)
              have F196 := FR.w F0 W193 (show 101 = 77 ∧ (((M.2.1 77 44).toInt).toNat = 4 ∨ ((M.2.1 77 44).toInt).toNat = 5 ∨ 7 ≤ ((M.2.1 77 44).toInt).toNat ∧ ((M.2.1 77 44).toInt).toNat ≤ 10) ∨ 101 = 77 ∧ (((M.2.1 77 44).toInt).toNat = 44 ∨ ((M.2.1 77 44).toInt).toNat = 52) ∨ 101 ≤ 101 ∧ 101 ≤ 108 by omega)
              refine to_an (pc := 144) rw_215_144 rfl ?_
              refine to_dupr (pc := 145) rw_215_145 ?_
              have c_197 : M194.2.1 77 44 = (M.2.1 77 44) := (W_n W193 (fun z => absurd z.1 (by decide)) rfl)
              refine tt_gI (pc := 146) rw_215_146 (g_o hG195 rfl) (v := (M.2.1 77 44)) c_197 ?_
              refine to_c (pc := 149) rw_215_149 (x := (1 : Int32)) rfl rfl ?_
              refine s_add (pc := 150) rw_215_150 (A := (M.2.1 77 44).toInt) (B := 1) rfl rfl (by omega) (fun v198 e199 => ?_)
              refine s_pI (pc := 151) rw_215_151 hG195 rfl (fun M201 W200 => ?_)
              have hG202 := g_w hG195 W200 (A := v198.toInt) rfl (lo := 0) (hi := 40) rfl rfl (by omega) (by decide)
              have F203 := FR.w F196 W200 (show 77 = 77 ∧ (44 = 4 ∨ 44 = 5 ∨ 7 ≤ 44 ∧ 44 ≤ 10) ∨ 77 = 77 ∧ (44 = 44 ∨ 44 = 52) ∨ 101 ≤ 77 ∧ 77 ≤ 108 by decide)
              refine to_an (pc := 154) rw_215_154 rfl ?_
              refine s_v (pc := 155) rw_215_155 (dp0 hd (by decide)) (ls0 := [.ref 77]) rfl (Nat.le_of_ble_eq_true rfl) (Nat.le_of_ble_eq_true rfl) rfl (to_rc rfl rfl rfl (g_o hG202 rfl)) rfl ?_
              have c_204 : M201.2.1 77 7 = (M.2.1 77 7) := (W_n W200 (by decide) (W_n W193 (fun z => absurd z.1 (by decide)) rfl))
              have t_205 : (M201.2.1 77 7).toInt = (M.2.1 77 7).toInt := congrArg Int32.toInt c_204
              have c_206 : M201.2.1 77 6 = (M.2.1 77 6) := (W_n W200 (by decide) (W_n W193 (fun z => absurd z.1 (by decide)) rfl))
              have t_207 : (M201.2.1 77 6).toInt = (M.2.1 77 6).toInt := congrArg Int32.toInt c_206
              have c_208 : M201.2.1 77 10 = (M.2.1 77 10) := (W_n W200 (by decide) (W_n W193 (fun z => absurd z.1 (by decide)) rfl))
              have t_209 : (M201.2.1 77 10).toInt = (M.2.1 77 10).toInt := congrArg Int32.toInt c_208
              have j_210 := (RS_f (fun a i z => W_n W200 (tg_170 a i z) rfl) (RS_f (fun a i z => W_n W193 (tg_171 a i _ z) rfl) q1))
              have z_211 := RS_b j_210 (a := a) (by omega)
              have j_212 := (TR_f (fun a i z => W_n W200 (tg_172 a i z) rfl) (TR_f (fun a i z => W_n W193 (tg_173 a i _ z) rfl) q5))
              have j_213 := (W9_f (fun a i z => W_n W200 (tg_174 a i z) rfl) (W9_f (fun a i z => W_n W193 (tg_175 a i _ z) rfl) q6))
              refine E_156 hX (dp1 hd (by decide)) hG202 (by omega) (by omega) (by omega) (by omega) j_212 j_213  (fun M220 hG215 F214 p_216 p_217 p_218 p_219 => ?_)
              have F221 := FR.c F203 F214 tg_168
              have b_222 := g_b hG215 (a := 77) (i := 7) (lo := 0) (hi := 500) rfl rfl
              have c_223 : M220.2.1 77 6 = (M.2.1 77 6) := (F_n F214 (show ¬ (77 = 77 ∧ 7 ≤ 6 ∧ 6 ≤ 10) by decide) c_206)
              have t_224 : (M220.2.1 77 6).toInt = (M.2.1 77 6).toInt := congrArg Int32.toInt c_223
              have b_225 := g_b hG215 (a := 77) (i := 8) (lo := 0) (hi := 5) rfl rfl
              have b_226 := g_b hG215 (a := 77) (i := 10) (lo := 0) (hi := 500) rfl rfl
              have z_227 := RS_s p_219.2 (a := a) (by omega)
              refine to_an (pc := 158) rw_215_158 rfl ?_
              refine s_gR (pc := 159) rw_215_159 hG215 rfl (v := 101) rfl ?_
              refine to_in (pc := 162) rw_215_162 rfl ?_
              refine s_ialk (pc := 163) rw_215_163 hG215 rfl (n := 40) rfl rfl (A := (M.2.1 77 44).toInt) rfl (by omega) (by omega) (v := (2 : Int32)) (F_n F214 (show ¬ (101 = 77 ∧ 7 ≤ ((M.2.1 77 44).toInt).toNat ∧ ((M.2.1 77 44).toInt).toNat ≤ 10) by omega) (W_n W200 (by omega) (W_e W193))) ?_
              refine b_ine_t (pc := 164) rw_215_164 (A := 2) rfl (by decide) ?_
              refine to_an (pc := 173) rw_215_173 rfl ?_
              refine s_gR (pc := 174) rw_215_174 hG215 rfl (v := 101) rfl ?_
              refine to_in (pc := 177) rw_215_177 rfl ?_
              refine s_ialk (pc := 178) rw_215_178 hG215 rfl (n := 40) rfl rfl (A := (M.2.1 77 44).toInt) rfl (by omega) (by omega) (v := (2 : Int32)) (F_n F214 (show ¬ (101 = 77 ∧ 7 ≤ ((M.2.1 77 44).toInt).toNat ∧ ((M.2.1 77 44).toInt).toNat ≤ 10) by omega) (W_n W200 (by omega) (W_e W193))) ?_
              refine to_c (pc := 179) rw_215_179 (x := (1 : Int32)) rfl rfl ?_
              refine b_cne_t (pc := 180) rw_215_180 (A := 2) (B := 1) rfl rfl (by decide) ?_
              have z_232 := RS_k p_219.1 (a := (x_ns t nn a)) (by omega)
              refine to_an (pc := 189) rw_215_189 rfl ?_
              refine to_c (pc := 190) rw_215_190 (x := (0 : Int32)) rfl rfl ?_
              refine to_c (pc := 191) rw_215_191 (x := (99 : Int32)) rfl rfl ?_
              refine s_v (pc := 193) rw_215_193 (dp0 hd (by decide)) (ls0 := [.ref 77, .int (0 : Int32), .int (99 : Int32)]) rfl (Nat.le_of_ble_eq_true rfl) (Nat.le_of_ble_eq_true rfl) rfl (to_rc rfl rfl rfl (g_o hG215 rfl)) rfl ?_
              refine to_an (pc := 0) rw_162_0 rfl ?_
              refine tt_gI (pc := 1) rw_162_1 (g_o hG215 rfl) (v := (M220.2.1 77 8)) rfl ?_
              refine to_c (pc := 4) rw_162_4 (x := (3 : Int32)) rfl rfl ?_
              refine b_ceq (pc := 5) rw_162_5 (A := (M220.2.1 77 8).toInt) (B := 3) rfl rfl (fun h233 => ?_) (fun h233 => ?_)
              · refine to_an (pc := 14) rw_162_14 rfl ?_
                refine tt_gI (pc := 15) rw_162_15 (g_o hG215 rfl) (v := (M220.2.1 77 9)) rfl ?_
                refine to_in (pc := 18) rw_162_18 rfl ?_
                refine b_clt (pc := 19) rw_162_19 (A := (M220.2.1 77 9).toInt) (B := 0) rfl rfl (fun h234 => ?_) (fun h234 => ?_)
                · refine to_an (pc := 30) rw_162_30 rfl ?_
                  refine to_c (pc := 31) rw_162_31 (x := (2 : Int32)) rfl rfl ?_
                  refine s_v (pc := 32) rw_162_32 (dp1 hd (by decide)) (ls0 := [.ref 77, .int (2 : Int32)]) rfl (Nat.le_of_ble_eq_true rfl) (Nat.le_of_ble_eq_true rfl) rfl (to_rc rfl rfl rfl (g_o hG215 rfl)) rfl ?_
                  refine to_an (pc := 0) rw_152_0 rfl ?_
                  refine to_in (pc := 1) rw_152_1 rfl ?_
                  refine s_pI (pc := 2) rw_152_2 hG215 rfl (fun M236 W235 => ?_)
                  have hG237 := g_wf hG215 W235 rfl rfl (by decide)
                  have F238 := FR.w F221 W235 (show 77 = 77 ∧ (4 = 4 ∨ 4 = 5 ∨ 7 ≤ 4 ∧ 4 ≤ 10) ∨ 77 = 77 ∧ (4 = 44 ∨ 4 = 52) ∨ 101 ≤ 77 ∧ 77 ≤ 108 by decide)
                  refine to_an (pc := 5) rw_152_5 rfl ?_
                  refine to_an (pc := 6) rw_152_6 rfl ?_
                  have c_239 : M236.2.1 77 10 = (M220.2.1 77 10) := (W_n W235 (by decide) rfl)
                  refine tt_gI (pc := 7) rw_152_7 (g_o hG237 rfl) (v := (M220.2.1 77 10)) c_239 ?_
                  refine s_pI (pc := 10) rw_152_10 hG237 rfl (fun M241 W240 => ?_)
                  have hG242 := g_wf hG237 W240 rfl rfl (by decide)
                  have F243 := FR.w F238 W240 (show 77 = 77 ∧ (5 = 4 ∨ 5 = 5 ∨ 7 ≤ 5 ∧ 5 ≤ 10) ∨ 77 = 77 ∧ (5 = 44 ∨ 5 = 52) ∨ 101 ≤ 77 ∧ 77 ≤ 108 by decide)
                  refine to_c (pc := 13) rw_152_13 (x := (0 : Int32)) rfl rfl ?_
                  refine s_r1 (pc := 14) rw_152_14 (A := 0) rfl (by decide) ?_
                  refine b_ieq_t (pc := 35) rw_162_35 (A := 0) rfl (by decide) ?_
                  refine to_c (pc := 42) rw_162_42 (x := (0 : Int32)) rfl rfl ?_
                  refine s_r1 (pc := 43) rw_162_43 (A := 0) rfl (by decide) ?_
                  refine b_ine_f (pc := 196) rw_215_196 (A := 0) rfl (by decide) ?_
                  have c_244 : M241.2.1 77 4 = (2 : Int32) := (W_n W240 (by decide) (W_e W235))
                  have j_245 := (RS_f (fun a i z => W_n W240 (tg_37 a i z) rfl) (RS_f (fun a i z => W_n W235 (tg_38 a i z) rfl) p_219.1))
                  have z_246 := RS_3x j_245 (a := (x_ns t nn a)) (m := 99) (by omega) (by omega) (by omega) (by omega)
                  refine to_c (pc := 199) rw_215_199 (x := (0 : Int32)) rfl rfl ?_
                  refine s_r1 (pc := 200) rw_215_200 (A := 0) rfl (by decide) ?_
                  have k_247 : (0 : Int32).toInt = 0 := rfl
                  have k_248 : (2 : Int32).toInt = 2 := rfl
                  have t_249 : (M241.2.1 77 4).toInt = (2 : Int32).toInt := congrArg Int32.toInt c_244
                  have c_250 : M241.2.1 77 5 = (M220.2.1 77 10) := (W_e W240)
                  have t_251 : (M241.2.1 77 5).toInt = (M220.2.1 77 10).toInt := congrArg Int32.toInt c_250
                  exact h (0 : Int32) M241 hG242 F243 (by decide) (by decide) (fun z => by exfalso; omega) (fun z => by exfalso; omega) (fun _ => winl (by omega) (by omega) ((w_ag (by omega) (by omega) (by omega) (by omega) (by omega)).trans (ag_2 (by omega) (by omega))))
                · refine to_an (pc := 22) rw_162_22 rfl ?_
                  refine tt_gI (pc := 23) rw_162_23 (g_o hG215 rfl) (v := (M220.2.1 77 9)) rfl ?_
                  refine to_in (pc := 26) rw_162_26 rfl ?_
                  refine b_cle (pc := 27) rw_162_27 (A := (M220.2.1 77 9).toInt) (B := 99) rfl rfl (fun h252 => ?_) (fun h252 => ?_)
                  · refine to_c (pc := 38) rw_162_38 (x := (1 : Int32)) rfl rfl ?_
                    refine to_go (pc := 39) rw_162_39 ?_
                    refine s_r1 (pc := 43) rw_162_43 (A := 1) rfl (by decide) ?_
                    refine b_ine_t (pc := 196) rw_215_196 (A := 1) rfl (by decide) ?_
                    have z_253 := RS_3 p_219.1 (a := (x_ns t nn a)) (by omega) (by omega) (by omega)
                    refine to_an (pc := 201) rw_215_201 rfl ?_
                    refine s_gR (pc := 202) rw_215_202 hG215 rfl (v := 102) rfl ?_
                    refine to_in (pc := 205) rw_215_205 rfl ?_
                    refine to_an (pc := 206) rw_215_206 rfl ?_
                    refine tt_gI (pc := 207) rw_215_207 (g_o hG215 rfl) (v := (M220.2.1 77 9)) rfl ?_
                    refine s_ias (pc := 210) rw_215_210 hG215 rfl (n := 40) rfl (A := (M.2.1 77 44).toInt) rfl (by omega) (by omega) (fun M255 W254 => ?_)
                    have hG256 := g_w hG215 W254 (A := (M220.2.1 77 9).toInt) rfl (lo := -1) (hi := 99) rfl rfl (by omega) (by decide)
                    have F257 := FR.w F221 W254 (show 102 = 77 ∧ (((M.2.1 77 44).toInt).toNat = 4 ∨ ((M.2.1 77 44).toInt).toNat = 5 ∨ 7 ≤ ((M.2.1 77 44).toInt).toNat ∧ ((M.2.1 77 44).toInt).toNat ≤ 10) ∨ 102 = 77 ∧ (((M.2.1 77 44).toInt).toNat = 44 ∨ ((M.2.1 77 44).toInt).toNat = 52) ∨ 101 ≤ 102 ∧ 102 ≤ 108 by omega)
                    refine to_an (pc := 211) rw_215_211 rfl ?_
                    refine s_v (pc := 212) rw_215_212 (dp0 hd (by decide)) (ls0 := [.ref 77]) rfl (Nat.le_of_ble_eq_true rfl) (Nat.le_of_ble_eq_true rfl) rfl (to_rc rfl rfl rfl (g_o hG256 rfl)) rfl ?_
                    have c_258 : M255.2.1 77 7 = (M220.2.1 77 7) := (W_n W254 (fun z => absurd z.1 (by decide)) rfl)
                    have t_259 : (M255.2.1 77 7).toInt = (M220.2.1 77 7).toInt := congrArg Int32.toInt c_258
                    have c_260 : M255.2.1 77 6 = (M.2.1 77 6) := (W_n W254 (fun z => absurd z.1 (by decide)) c_223)
                    have t_261 : (M255.2.1 77 6).toInt = (M.2.1 77 6).toInt := congrArg Int32.toInt c_260
                    have c_262 : M255.2.1 77 10 = (M220.2.1 77 10) := (W_n W254 (fun z => absurd z.1 (by decide)) rfl)
                    have t_263 : (M255.2.1 77 10).toInt = (M220.2.1 77 10).toInt := congrArg Int32.toInt c_262
                    have j_264 := (RS_f (fun a i z => W_n W254 (tg_153 a i _ z) rfl) p_219.1)
                    have z_265 := RS_b j_264 (a := (x_ns t nn a)) (by omega)
                    have j_266 := (TR_f (fun a i z => W_n W254 (tg_154 a i _ z) rfl) (TR_f (tg_42 F214) j_212))
                    have j_267 := (W9_f (fun a i z => W_n W254 (tg_155 a i _ z) rfl) (W9_f (tg_44 F214) j_213))
                    refine E_156 hX (dp1 hd (by decide)) hG256 (by omega) (by omega) (by omega) (by omega) j_266 j_267  (fun M274 hG269 F268 p_270 p_271 p_272 p_273 => ?_)
                    have F275 := FR.c F257 F268 tg_168
                    have b_276 := g_b hG269 (a := 77) (i := 7) (lo := 0) (hi := 500) rfl rfl
                    have c_277 : M274.2.1 77 6 = (M.2.1 77 6) := (F_n F268 (show ¬ (77 = 77 ∧ 7 ≤ 6 ∧ 6 ≤ 10) by decide) c_260)
                    have t_278 : (M274.2.1 77 6).toInt = (M.2.1 77 6).toInt := congrArg Int32.toInt c_277
                    have b_279 := g_b hG269 (a := 77) (i := 8) (lo := 0) (hi := 5) rfl rfl
                    have b_280 := g_b hG269 (a := 77) (i := 10) (lo := 0) (hi := 500) rfl rfl
                    have z_281 := RS_s p_273.2 (a := (x_ns t nn a)) (by omega)
                    have z_282 := RS_k p_273.1 (a := (x_ns t nn (x_ns t nn a))) (by omega)
                    refine to_an (pc := 215) rw_215_215 rfl ?_
                    refine to_c (pc := 216) rw_215_216 (x := (40 : Int32)) rfl rfl ?_
                    refine s_v (pc := 218) rw_215_218 (dp0 hd (by decide)) (ls0 := [.ref 77, .int (40 : Int32)]) rfl (Nat.le_of_ble_eq_true rfl) (Nat.le_of_ble_eq_true rfl) rfl (to_rc rfl rfl rfl (g_o hG269 rfl)) rfl ?_
                    refine to_an (pc := 0) rw_159_0 rfl ?_
                    refine tt_gI (pc := 1) rw_159_1 (g_o hG269 rfl) (v := (M274.2.1 77 8)) rfl ?_
                    refine to_c (pc := 4) rw_159_4 (x := (4 : Int32)) rfl rfl ?_
                    refine b_cne (pc := 5) rw_159_5 (A := (M274.2.1 77 8).toInt) (B := 4) rfl rfl (fun h283 => ?_) (fun h283 => ?_)
                    · refine to_c (pc := 20) rw_159_20 (x := (0 : Int32)) rfl rfl ?_
                      refine s_r1 (pc := 21) rw_159_21 (A := 0) rfl (by decide) ?_
                      refine b_ine_f (pc := 221) rw_215_221 (A := 0) rfl (by decide) ?_
                      refine to_an (pc := 224) rw_215_224 rfl ?_
                      refine to_c (pc := 225) rw_215_225 (x := (1 : Int32)) rfl rfl ?_
                      refine s_v (pc := 226) rw_215_226 (dp0 hd (by decide)) (ls0 := [.ref 77, .int (1 : Int32)]) rfl (Nat.le_of_ble_eq_true rfl) (Nat.le_of_ble_eq_true rfl) rfl (to_rc rfl rfl rfl (g_o hG269 rfl)) rfl ?_
                      refine to_an (pc := 0) rw_152_0 rfl ?_
                      refine to_in (pc := 1) rw_152_1 rfl ?_
                      refine s_pI (pc := 2) rw_152_2 hG269 rfl (fun M285 W284 => ?_)
                      have hG286 := g_wf hG269 W284 rfl rfl (by decide)
                      have F287 := FR.w F275 W284 (show 77 = 77 ∧ (4 = 4 ∨ 4 = 5 ∨ 7 ≤ 4 ∧ 4 ≤ 10) ∨ 77 = 77 ∧ (4 = 44 ∨ 4 = 52) ∨ 101 ≤ 77 ∧ 77 ≤ 108 by decide)
                      refine to_an (pc := 5) rw_152_5 rfl ?_
                      refine to_an (pc := 6) rw_152_6 rfl ?_
                      have c_288 : M285.2.1 77 10 = (M274.2.1 77 10) := (W_n W284 (by decide) rfl)
                      refine tt_gI (pc := 7) rw_152_7 (g_o hG286 rfl) (v := (M274.2.1 77 10)) c_288 ?_
                      refine s_pI (pc := 10) rw_152_10 hG286 rfl (fun M290 W289 => ?_)
                      have hG291 := g_wf hG286 W289 rfl rfl (by decide)
                      have F292 := FR.w F287 W289 (show 77 = 77 ∧ (5 = 4 ∨ 5 = 5 ∨ 7 ≤ 5 ∧ 5 ≤ 10) ∨ 77 = 77 ∧ (5 = 44 ∨ 5 = 52) ∨ 101 ≤ 77 ∧ 77 ≤ 108 by decide)
                      refine to_c (pc := 13) rw_152_13 (x := (0 : Int32)) rfl rfl ?_
                      refine s_r1 (pc := 14) rw_152_14 (A := 0) rfl (by decide) ?_
                      refine s_r1 (pc := 229) rw_215_229 (A := 0) rfl (by decide) ?_
                      have k_293 : (0 : Int32).toInt = 0 := rfl
                      have c_294 : M290.2.1 77 4 = (1 : Int32) := (W_n W289 (by decide) (W_e W284))
                      have k_295 : (1 : Int32).toInt = 1 := rfl
                      have t_296 : (M290.2.1 77 4).toInt = (1 : Int32).toInt := congrArg Int32.toInt c_294
                      have c_297 : M290.2.1 77 5 = (M274.2.1 77 10) := (W_e W289)
                      have t_298 : (M290.2.1 77 5).toInt = (M274.2.1 77 10).toInt := congrArg Int32.toInt c_297
                      exact h (0 : Int32) M290 hG291 F292 (by decide) (by decide) (fun z => by exfalso; omega) (fun z => by exfalso; omega) (fun _ => winl (by omega) (by omega) ((w_ag (by omega) (by omega) (by omega) (by omega) (by omega)).trans (ag_3 (by omega) (by omega) (by omega))))
                    · refine to_an (pc := 8) rw_159_8 rfl ?_
                      refine tt_gI (pc := 9) rw_159_9 (g_o hG269 rfl) (v := (M274.2.1 77 9)) rfl ?_
                      refine to_in (pc := 12) rw_159_12 rfl ?_
                      refine b_cne (pc := 13) rw_159_13 (A := (M274.2.1 77 9).toInt) (B := 40) rfl rfl (fun h299 => ?_) (fun h299 => ?_)
                      · refine to_c (pc := 20) rw_159_20 (x := (0 : Int32)) rfl rfl ?_
                        refine s_r1 (pc := 21) rw_159_21 (A := 0) rfl (by decide) ?_
                        refine b_ine_f (pc := 221) rw_215_221 (A := 0) rfl (by decide) ?_
                        have z_300 := RS_4 p_273.1 (a := (x_ns t nn (x_ns t nn a))) (by omega) (by omega)
                        refine to_an (pc := 224) rw_215_224 rfl ?_
                        refine to_c (pc := 225) rw_215_225 (x := (1 : Int32)) rfl rfl ?_
                        refine s_v (pc := 226) rw_215_226 (dp0 hd (by decide)) (ls0 := [.ref 77, .int (1 : Int32)]) rfl (Nat.le_of_ble_eq_true rfl) (Nat.le_of_ble_eq_true rfl) rfl (to_rc rfl rfl rfl (g_o hG269 rfl)) rfl ?_
                        refine to_an (pc := 0) rw_152_0 rfl ?_
                        refine to_in (pc := 1) rw_152_1 rfl ?_
                        refine s_pI (pc := 2) rw_152_2 hG269 rfl (fun M302 W301 => ?_)
                        have hG303 := g_wf hG269 W301 rfl rfl (by decide)
                        have F304 := FR.w F275 W301 (show 77 = 77 ∧ (4 = 4 ∨ 4 = 5 ∨ 7 ≤ 4 ∧ 4 ≤ 10) ∨ 77 = 77 ∧ (4 = 44 ∨ 4 = 52) ∨ 101 ≤ 77 ∧ 77 ≤ 108 by decide)
                        refine to_an (pc := 5) rw_152_5 rfl ?_
                        refine to_an (pc := 6) rw_152_6 rfl ?_
                        have c_305 : M302.2.1 77 10 = (M274.2.1 77 10) := (W_n W301 (by decide) rfl)
                        refine tt_gI (pc := 7) rw_152_7 (g_o hG303 rfl) (v := (M274.2.1 77 10)) c_305 ?_
                        refine s_pI (pc := 10) rw_152_10 hG303 rfl (fun M307 W306 => ?_)
                        have hG308 := g_wf hG303 W306 rfl rfl (by decide)
                        have F309 := FR.w F304 W306 (show 77 = 77 ∧ (5 = 4 ∨ 5 = 5 ∨ 7 ≤ 5 ∧ 5 ≤ 10) ∨ 77 = 77 ∧ (5 = 44 ∨ 5 = 52) ∨ 101 ≤ 77 ∧ 77 ≤ 108 by decide)
                        refine to_c (pc := 13) rw_152_13 (x := (0 : Int32)) rfl rfl ?_
                        refine s_r1 (pc := 14) rw_152_14 (A := 0) rfl (by decide) ?_
                        refine s_r1 (pc := 229) rw_215_229 (A := 0) rfl (by decide) ?_
                        have k_310 : (0 : Int32).toInt = 0 := rfl
                        have c_311 : M307.2.1 77 4 = (1 : Int32) := (W_n W306 (by decide) (W_e W301))
                        have k_312 : (1 : Int32).toInt = 1 := rfl
                        have t_313 : (M307.2.1 77 4).toInt = (1 : Int32).toInt := congrArg Int32.toInt c_311
                        have c_314 : M307.2.1 77 5 = (M274.2.1 77 10) := (W_e W306)
                        have t_315 : (M307.2.1 77 5).toInt = (M274.2.1 77 10).toInt := congrArg Int32.toInt c_314
                        exact h (0 : Int32) M307 hG308 F309 (by decide) (by decide) (fun z => by exfalso; omega) (fun z => by exfalso; omega) (fun _ => winl (by omega) (by omega) ((w_ag (by omega) (by omega) (by omega) (by omega) (by omega)).trans (ag_3 (by omega) (by omega) (by omega))))
                      · refine to_c (pc := 16) rw_159_16 (x := (1 : Int32)) rfl rfl ?_
                        refine to_go (pc := 17) rw_159_17 ?_
                        refine s_r1 (pc := 21) rw_159_21 (A := 1) rfl (by decide) ?_
                        refine b_ine_t (pc := 221) rw_215_221 (A := 1) rfl (by decide) ?_
                        have z_316 := RS_4 p_273.1 (a := (x_ns t nn (x_ns t nn a))) (by omega) (by omega)
                        refine to_an (pc := 230) rw_215_230 rfl ?_
                        have c_317 : M274.2.1 77 52 = (M.2.1 77 52) := (F_n F268 (show ¬ (77 = 77 ∧ 7 ≤ 52 ∧ 52 ≤ 10) by decide) (W_n W254 (fun z => absurd z.1 (by decide)) (F_n F214 (show ¬ (77 = 77 ∧ 7 ≤ 52 ∧ 52 ≤ 10) by decide) (W_n W200 (by decide) (W_n W193 (fun z => absurd z.1 (by decide)) rfl)))))
                        refine tt_gI (pc := 231) rw_215_231 (g_o hG269 rfl) (v := (M.2.1 77 52)) c_317 ?_
                        refine to_c (pc := 234) rw_215_234 (x := (5 : Int32)) rfl rfl ?_
                        refine b_cne (pc := 235) rw_215_235 (A := (M.2.1 77 52).toInt) (B := 5) rfl rfl (fun h318 => ?_) (fun h318 => ?_)
                        · refine to_an (pc := 244) rw_215_244 rfl ?_
                          refine s_gR (pc := 245) rw_215_245 hG269 rfl (v := 108) rfl ?_
                          refine to_an (pc := 248) rw_215_248 rfl ?_
                          refine tt_gI (pc := 249) rw_215_249 (g_o hG269 rfl) (v := (M.2.1 77 52)) c_317 ?_
                          refine to_in (pc := 252) rw_215_252 rfl ?_
                          refine s_ias (pc := 253) rw_215_253 hG269 rfl (n := 5) rfl (A := (M.2.1 77 52).toInt) rfl (by omega) (by omega) (fun M320 W319 => ?_)
                          have hG321 := g_w hG269 W319 (A := (M.2.1 77 44).toInt) rfl (lo := 0) (hi := 39) rfl rfl (by omega) (by decide)
                          have F322 := FR.w F275 W319 (show 108 = 77 ∧ (((M.2.1 77 52).toInt).toNat = 4 ∨ ((M.2.1 77 52).toInt).toNat = 5 ∨ 7 ≤ ((M.2.1 77 52).toInt).toNat ∧ ((M.2.1 77 52).toInt).toNat ≤ 10) ∨ 108 = 77 ∧ (((M.2.1 77 52).toInt).toNat = 44 ∨ ((M.2.1 77 52).toInt).toNat = 52) ∨ 101 ≤ 108 ∧ 108 ≤ 108 by omega)
                          refine to_an (pc := 254) rw_215_254 rfl ?_
                          refine to_dupr (pc := 255) rw_215_255 ?_
                          have c_323 : M320.2.1 77 52 = (M.2.1 77 52) := (W_n W319 (fun z => absurd z.1 (by decide)) c_317)
                          refine tt_gI (pc := 256) rw_215_256 (g_o hG321 rfl) (v := (M.2.1 77 52)) c_323 ?_
                          refine to_c (pc := 259) rw_215_259 (x := (1 : Int32)) rfl rfl ?_
                          refine s_add (pc := 260) rw_215_260 (A := (M.2.1 77 52).toInt) (B := 1) rfl rfl (by omega) (fun v324 e325 => ?_)
                          refine s_pI (pc := 261) rw_215_261 hG321 rfl (fun M327 W326 => ?_)
                          have hG328 := g_w hG321 W326 (A := v324.toInt) rfl (lo := 0) (hi := 5) rfl rfl (by omega) (by decide)
                          have F329 := FR.w F322 W326 (show 77 = 77 ∧ (52 = 4 ∨ 52 = 5 ∨ 7 ≤ 52 ∧ 52 ≤ 10) ∨ 77 = 77 ∧ (52 = 44 ∨ 52 = 52) ∨ 101 ≤ 77 ∧ 77 ≤ 108 by decide)
                          refine to_an (pc := 264) rw_215_264 rfl ?_
                          refine s_v (pc := 265) rw_215_265 (dp0 hd (by decide)) (ls0 := [.ref 77]) rfl (Nat.le_of_ble_eq_true rfl) (Nat.le_of_ble_eq_true rfl) rfl (to_rc rfl rfl rfl (g_o hG328 rfl)) rfl ?_
                          have c_330 : M327.2.1 77 7 = (M274.2.1 77 7) := (W_n W326 (by decide) (W_n W319 (fun z => absurd z.1 (by decide)) rfl))
                          have t_331 : (M327.2.1 77 7).toInt = (M274.2.1 77 7).toInt := congrArg Int32.toInt c_330
                          have c_332 : M327.2.1 77 6 = (M.2.1 77 6) := (W_n W326 (by decide) (W_n W319 (fun z => absurd z.1 (by decide)) c_277))
                          have t_333 : (M327.2.1 77 6).toInt = (M.2.1 77 6).toInt := congrArg Int32.toInt c_332
                          have c_334 : M327.2.1 77 10 = (M274.2.1 77 10) := (W_n W326 (by decide) (W_n W319 (fun z => absurd z.1 (by decide)) rfl))
                          have t_335 : (M327.2.1 77 10).toInt = (M274.2.1 77 10).toInt := congrArg Int32.toInt c_334
                          have j_336 := (RS_f (fun a i z => W_n W326 (tg_178 a i z) rfl) (RS_f (fun a i z => W_n W319 (tg_179 a i _ z) rfl) p_273.1))
                          have z_337 := RS_b j_336 (a := (x_ns t nn (x_ns t nn a))) (by omega)
                          have j_338 := (TR_f (fun a i z => W_n W326 (tg_180 a i z) rfl) (TR_f (fun a i z => W_n W319 (tg_181 a i _ z) rfl) (TR_f (tg_42 F268) j_266)))
                          have j_339 := (W9_f (fun a i z => W_n W326 (tg_182 a i z) rfl) (W9_f (fun a i z => W_n W319 (tg_183 a i _ z) rfl) (W9_f (tg_44 F268) j_267)))
                          refine E_156 hX (dp1 hd (by decide)) hG328 (by omega) (by omega) (by omega) (by omega) j_338 j_339  (fun M346 hG341 F340 p_342 p_343 p_344 p_345 => ?_)
                          have F347 := FR.c F329 F340 tg_168
                          have b_348 := g_b hG341 (a := 77) (i := 7) (lo := 0) (hi := 500) rfl rfl
                          have c_349 : M346.2.1 77 6 = (M.2.1 77 6) := (F_n F340 (show ¬ (77 = 77 ∧ 7 ≤ 6 ∧ 6 ≤ 10) by decide) c_332)
                          have t_350 : (M346.2.1 77 6).toInt = (M.2.1 77 6).toInt := congrArg Int32.toInt c_349
                          have b_351 := g_b hG341 (a := 77) (i := 8) (lo := 0) (hi := 5) rfl rfl
                          have b_352 := g_b hG341 (a := 77) (i := 10) (lo := 0) (hi := 500) rfl rfl
                          have z_353 := RS_s p_345.2 (a := (x_ns t nn (x_ns t nn a))) (by omega)
                          refine to_c (pc := 268) rw_215_268 (x := (1 : Int32)) rfl rfl ?_
                          refine s_r1 (pc := 269) rw_215_269 (A := 1) rfl (by decide) ?_
                          have k_354 : (1 : Int32).toInt = 1 := rfl
                          have c_355 : M346.2.1 77 44 = v198 := (F_n F340 (show ¬ (77 = 77 ∧ 7 ≤ 44 ∧ 44 ≤ 10) by decide) (W_n W326 (by decide) (W_n W319 (fun z => absurd z.1 (by decide)) (F_n F268 (show ¬ (77 = 77 ∧ 7 ≤ 44 ∧ 44 ≤ 10) by decide) (W_n W254 (fun z => absurd z.1 (by decide)) (F_n F214 (show ¬ (77 = 77 ∧ 7 ≤ 44 ∧ 44 ≤ 10) by decide) (W_e W200)))))))
                          have t_356 : (M346.2.1 77 44).toInt = v198.toInt := congrArg Int32.toInt c_355
                          have c_357 : M346.2.1 77 52 = v324 := (F_n F340 (show ¬ (77 = 77 ∧ 7 ≤ 52 ∧ 52 ≤ 10) by decide) (W_e W326))
                          have t_358 : (M346.2.1 77 52).toInt = v324.toInt := congrArg Int32.toInt c_357
                          have k_359 : (2 : Int32).toInt = 2 := rfl
                          exact h (1 : Int32) M346 hG341 F347 (by decide) (by decide) (fun _ => p_345.1) (fun _ => WS_a (tm := x_val t nn (x_ns t nn a)) (by omega) q11 q12 q13 q14 (fun r i z z2 => (F_n F340 (show ¬ (r = 77 ∧ 7 ≤ i ∧ i ≤ 10) by omega) (W_n W326 (by omega) (W_n W319 (by omega) (F_n F268 (show ¬ (r = 77 ∧ 7 ≤ i ∧ i ≤ 10) by omega) (W_n W254 (by omega) (F_n F214 (show ¬ (r = 77 ∧ 7 ≤ i ∧ i ≤ 10) by omega) (W_n W200 (by omega) (W_n W193 (by omega) rfl))))))))) (by rw [show n9.toNat = ((M.2.1 77 44).toInt).toNat by omega, show M346.2.1 101 ((M.2.1 77 44).toInt).toNat = (2 : Int32) from (F_n F340 (show ¬ (101 = 77 ∧ 7 ≤ ((M.2.1 77 44).toInt).toNat ∧ ((M.2.1 77 44).toInt).toNat ≤ 10) by omega) (W_n W326 (by omega) (W_n W319 (by omega) (F_n F268 (show ¬ (101 = 77 ∧ 7 ≤ ((M.2.1 77 44).toInt).toNat ∧ ((M.2.1 77 44).toInt).toNat ≤ 10) by omega) (W_n W254 (by omega) (F_n F214 (show ¬ (101 = 77 ∧ 7 ≤ ((M.2.1 77 44).toInt).toNat ∧ ((M.2.1 77 44).toInt).toNat ≤ 10) by omega) (W_n W200 (by omega) (W_e W193))))))))]; exact (show (2 : Int32).toInt = 2 by omega)) (by rw [show n9.toNat = ((M.2.1 77 44).toInt).toNat by omega, show M346.2.1 102 ((M.2.1 77 44).toInt).toNat = (M220.2.1 77 9) from (F_n F340 (show ¬ (102 = 77 ∧ 7 ≤ ((M.2.1 77 44).toInt).toNat ∧ ((M.2.1 77 44).toInt).toNat ≤ 10) by omega) (W_n W326 (by omega) (W_n W319 (by omega) (F_n F268 (show ¬ (102 = 77 ∧ 7 ≤ ((M.2.1 77 44).toInt).toNat ∧ ((M.2.1 77 44).toInt).toNat ≤ 10) by omega) (W_e W254)))))]; exact (show (M220.2.1 77 9).toInt = x_val t nn (x_ns t nn a) by omega)) (fun i => (F_n F340 (show ¬ (105 = 77 ∧ 7 ≤ i ∧ i ≤ 10) by omega) (W_n W326 (by omega) (W_n W319 (by omega) (F_n F268 (show ¬ (105 = 77 ∧ 7 ≤ i ∧ i ≤ 10) by omega) (W_n W254 (by omega) (F_n F214 (show ¬ (105 = 77 ∧ 7 ≤ i ∧ i ≤ 10) by omega) (W_n W200 (by omega) (W_n W193 (by omega) rfl))))))))) (fun i z => (F_n F340 (show ¬ (108 = 77 ∧ 7 ≤ i ∧ i ≤ 10) by omega) (W_n W326 (by omega) (W_n W319 (by omega) (F_n F268 (show ¬ (108 = 77 ∧ 7 ≤ i ∧ i ≤ 10) by omega) (W_n W254 (by omega) (F_n F214 (show ¬ (108 = 77 ∧ 7 ≤ i ∧ i ≤ 10) by omega) (W_n W200 (by omega) (W_n W193 (by omega) rfl))))))))) (by rw [show ((M.2.1 77 52).toInt).toNat = ((M.2.1 77 52).toInt).toNat by omega, show M346.2.1 108 ((M.2.1 77 52).toInt).toNat = (M.2.1 77 44) from (F_n F340 (show ¬ (108 = 77 ∧ 7 ≤ (((M.2.1 77 52).toInt).toNat) ∧ (((M.2.1 77 52).toInt).toNat) ≤ 10) by omega) (W_n W326 (by omega) (W_e W319)))]; omega) (by omega) (by omega) (((w_ag (by omega) (by omega) (by omega) (by omega) (by omega)).trans (ag_y (by omega) (by omega) (by omega) (by omega))).trans (w_v rfl (by omega)))) (fun z => by exfalso; omega)
                        · refine to_an (pc := 238) rw_215_238 rfl ?_
                          refine to_c (pc := 239) rw_215_239 (x := (2 : Int32)) rfl rfl ?_
                          refine s_v (pc := 240) rw_215_240 (dp0 hd (by decide)) (ls0 := [.ref 77, .int (2 : Int32)]) rfl (Nat.le_of_ble_eq_true rfl) (Nat.le_of_ble_eq_true rfl) rfl (to_rc rfl rfl rfl (g_o hG269 rfl)) rfl ?_
                          refine to_an (pc := 0) rw_152_0 rfl ?_
                          refine to_in (pc := 1) rw_152_1 rfl ?_
                          refine s_pI (pc := 2) rw_152_2 hG269 rfl (fun M361 W360 => ?_)
                          have hG362 := g_wf hG269 W360 rfl rfl (by decide)
                          have F363 := FR.w F275 W360 (show 77 = 77 ∧ (4 = 4 ∨ 4 = 5 ∨ 7 ≤ 4 ∧ 4 ≤ 10) ∨ 77 = 77 ∧ (4 = 44 ∨ 4 = 52) ∨ 101 ≤ 77 ∧ 77 ≤ 108 by decide)
                          refine to_an (pc := 5) rw_152_5 rfl ?_
                          refine to_an (pc := 6) rw_152_6 rfl ?_
                          have c_364 : M361.2.1 77 10 = (M274.2.1 77 10) := (W_n W360 (by decide) rfl)
                          refine tt_gI (pc := 7) rw_152_7 (g_o hG362 rfl) (v := (M274.2.1 77 10)) c_364 ?_
                          refine s_pI (pc := 10) rw_152_10 hG362 rfl (fun M366 W365 => ?_)
                          have hG367 := g_wf hG362 W365 rfl rfl (by decide)
                          have F368 := FR.w F363 W365 (show 77 = 77 ∧ (5 = 4 ∨ 5 = 5 ∨ 7 ≤ 5 ∧ 5 ≤ 10) ∨ 77 = 77 ∧ (5 = 44 ∨ 5 = 52) ∨ 101 ≤ 77 ∧ 77 ≤ 108 by decide)
                          refine to_c (pc := 13) rw_152_13 (x := (0 : Int32)) rfl rfl ?_
                          refine s_r1 (pc := 14) rw_152_14 (A := 0) rfl (by decide) ?_
                          refine s_r1 (pc := 243) rw_215_243 (A := 0) rfl (by decide) ?_
                          have k_369 : (0 : Int32).toInt = 0 := rfl
                          have c_370 : M366.2.1 77 4 = (2 : Int32) := (W_n W365 (by decide) (W_e W360))
                          have k_371 : (2 : Int32).toInt = 2 := rfl
                          have t_372 : (M366.2.1 77 4).toInt = (2 : Int32).toInt := congrArg Int32.toInt c_370
                          have c_373 : M366.2.1 77 5 = (M274.2.1 77 10) := (W_e W365)
                          have t_374 : (M366.2.1 77 5).toInt = (M274.2.1 77 10).toInt := congrArg Int32.toInt c_373
                          exact h (0 : Int32) M366 hG367 F368 (by decide) (by decide) (fun z => by exfalso; omega) (fun z => by exfalso; omega) (fun _ => winl (by omega) (by omega) ((w_ag (by omega) (by omega) (by omega) (by omega) (by omega)).trans (ag_4 (by omega) (by omega) (by omega) (by omega))))
                  · refine to_an (pc := 30) rw_162_30 rfl ?_
                    refine to_c (pc := 31) rw_162_31 (x := (2 : Int32)) rfl rfl ?_
                    refine s_v (pc := 32) rw_162_32 (dp1 hd (by decide)) (ls0 := [.ref 77, .int (2 : Int32)]) rfl (Nat.le_of_ble_eq_true rfl) (Nat.le_of_ble_eq_true rfl) rfl (to_rc rfl rfl rfl (g_o hG215 rfl)) rfl ?_
                    refine to_an (pc := 0) rw_152_0 rfl ?_
                    refine to_in (pc := 1) rw_152_1 rfl ?_
                    refine s_pI (pc := 2) rw_152_2 hG215 rfl (fun M376 W375 => ?_)
                    have hG377 := g_wf hG215 W375 rfl rfl (by decide)
                    have F378 := FR.w F221 W375 (show 77 = 77 ∧ (4 = 4 ∨ 4 = 5 ∨ 7 ≤ 4 ∧ 4 ≤ 10) ∨ 77 = 77 ∧ (4 = 44 ∨ 4 = 52) ∨ 101 ≤ 77 ∧ 77 ≤ 108 by decide)
                    refine to_an (pc := 5) rw_152_5 rfl ?_
                    refine to_an (pc := 6) rw_152_6 rfl ?_
                    have c_379 : M376.2.1 77 10 = (M220.2.1 77 10) := (W_n W375 (by decide) rfl)
                    refine tt_gI (pc := 7) rw_152_7 (g_o hG377 rfl) (v := (M220.2.1 77 10)) c_379 ?_
                    refine s_pI (pc := 10) rw_152_10 hG377 rfl (fun M381 W380 => ?_)
                    have hG382 := g_wf hG377 W380 rfl rfl (by decide)
                    have F383 := FR.w F378 W380 (show 77 = 77 ∧ (5 = 4 ∨ 5 = 5 ∨ 7 ≤ 5 ∧ 5 ≤ 10) ∨ 77 = 77 ∧ (5 = 44 ∨ 5 = 52) ∨ 101 ≤ 77 ∧ 77 ≤ 108 by decide)
                    refine to_c (pc := 13) rw_152_13 (x := (0 : Int32)) rfl rfl ?_
                    refine s_r1 (pc := 14) rw_152_14 (A := 0) rfl (by decide) ?_
                    refine b_ieq_t (pc := 35) rw_162_35 (A := 0) rfl (by decide) ?_
                    refine to_c (pc := 42) rw_162_42 (x := (0 : Int32)) rfl rfl ?_
                    refine s_r1 (pc := 43) rw_162_43 (A := 0) rfl (by decide) ?_
                    refine b_ine_f (pc := 196) rw_215_196 (A := 0) rfl (by decide) ?_
                    have c_384 : M381.2.1 77 4 = (2 : Int32) := (W_n W380 (by decide) (W_e W375))
                    have j_385 := (RS_f (fun a i z => W_n W380 (tg_37 a i z) rfl) (RS_f (fun a i z => W_n W375 (tg_38 a i z) rfl) p_219.1))
                    have z_386 := RS_3x j_385 (a := (x_ns t nn a)) (m := 99) (by omega) (by omega) (by omega) (by omega)
                    refine to_c (pc := 199) rw_215_199 (x := (0 : Int32)) rfl rfl ?_
                    refine s_r1 (pc := 200) rw_215_200 (A := 0) rfl (by decide) ?_
                    have k_387 : (0 : Int32).toInt = 0 := rfl
                    have k_388 : (2 : Int32).toInt = 2 := rfl
                    have t_389 : (M381.2.1 77 4).toInt = (2 : Int32).toInt := congrArg Int32.toInt c_384
                    have c_390 : M381.2.1 77 5 = (M220.2.1 77 10) := (W_e W380)
                    have t_391 : (M381.2.1 77 5).toInt = (M220.2.1 77 10).toInt := congrArg Int32.toInt c_390
                    exact h (0 : Int32) M381 hG382 F383 (by decide) (by decide) (fun z => by exfalso; omega) (fun z => by exfalso; omega) (fun _ => winl (by omega) (by omega) ((w_ag (by omega) (by omega) (by omega) (by omega) (by omega)).trans (ag_2 (by omega) (by omega))))
              · refine to_an (pc := 8) rw_162_8 rfl ?_
                refine to_c (pc := 9) rw_162_9 (x := (1 : Int32)) rfl rfl ?_
                refine s_v (pc := 10) rw_162_10 (dp1 hd (by decide)) (ls0 := [.ref 77, .int (1 : Int32)]) rfl (Nat.le_of_ble_eq_true rfl) (Nat.le_of_ble_eq_true rfl) rfl (to_rc rfl rfl rfl (g_o hG215 rfl)) rfl ?_
                refine to_an (pc := 0) rw_152_0 rfl ?_
                refine to_in (pc := 1) rw_152_1 rfl ?_
                refine s_pI (pc := 2) rw_152_2 hG215 rfl (fun M393 W392 => ?_)
                have hG394 := g_wf hG215 W392 rfl rfl (by decide)
                have F395 := FR.w F221 W392 (show 77 = 77 ∧ (4 = 4 ∨ 4 = 5 ∨ 7 ≤ 4 ∧ 4 ≤ 10) ∨ 77 = 77 ∧ (4 = 44 ∨ 4 = 52) ∨ 101 ≤ 77 ∧ 77 ≤ 108 by decide)
                refine to_an (pc := 5) rw_152_5 rfl ?_
                refine to_an (pc := 6) rw_152_6 rfl ?_
                have c_396 : M393.2.1 77 10 = (M220.2.1 77 10) := (W_n W392 (by decide) rfl)
                refine tt_gI (pc := 7) rw_152_7 (g_o hG394 rfl) (v := (M220.2.1 77 10)) c_396 ?_
                refine s_pI (pc := 10) rw_152_10 hG394 rfl (fun M398 W397 => ?_)
                have hG399 := g_wf hG394 W397 rfl rfl (by decide)
                have F400 := FR.w F395 W397 (show 77 = 77 ∧ (5 = 4 ∨ 5 = 5 ∨ 7 ≤ 5 ∧ 5 ≤ 10) ∨ 77 = 77 ∧ (5 = 44 ∨ 5 = 52) ∨ 101 ≤ 77 ∧ 77 ≤ 108 by decide)
                refine to_c (pc := 13) rw_152_13 (x := (0 : Int32)) rfl rfl ?_
                refine s_r1 (pc := 14) rw_152_14 (A := 0) rfl (by decide) ?_
                refine s_r1 (pc := 13) rw_162_13 (A := 0) rfl (by decide) ?_
                refine b_ine_f (pc := 196) rw_215_196 (A := 0) rfl (by decide) ?_
                have c_401 : M398.2.1 77 4 = (1 : Int32) := (W_n W397 (by decide) (W_e W392))
                refine to_c (pc := 199) rw_215_199 (x := (0 : Int32)) rfl rfl ?_
                refine s_r1 (pc := 200) rw_215_200 (A := 0) rfl (by decide) ?_
                have k_402 : (0 : Int32).toInt = 0 := rfl
                have k_403 : (1 : Int32).toInt = 1 := rfl
                have t_404 : (M398.2.1 77 4).toInt = (1 : Int32).toInt := congrArg Int32.toInt c_401
                have c_405 : M398.2.1 77 5 = (M220.2.1 77 10) := (W_e W397)
                have t_406 : (M398.2.1 77 5).toInt = (M220.2.1 77 10).toInt := congrArg Int32.toInt c_405
                exact h (0 : Int32) M398 hG399 F400 (by decide) (by decide) (fun z => by exfalso; omega) (fun z => by exfalso; omega) (fun _ => winl (by omega) (by omega) ((w_ag (by omega) (by omega) (by omega) (by omega) (by omega)).trans (ag_1 (by omega))))
            · refine to_an (pc := 100) rw_215_100 rfl ?_
              refine to_c (pc := 101) rw_215_101 (x := (2 : Int32)) rfl rfl ?_
              refine s_v (pc := 102) rw_215_102 (dp0 hd (by decide)) (ls0 := [.ref 77, .int (2 : Int32)]) rfl (Nat.le_of_ble_eq_true rfl) (Nat.le_of_ble_eq_true rfl) rfl (to_rc rfl rfl rfl (g_o hG rfl)) rfl ?_
              refine to_an (pc := 0) rw_152_0 rfl ?_
              refine to_in (pc := 1) rw_152_1 rfl ?_
              refine s_pI (pc := 2) rw_152_2 hG rfl (fun M408 W407 => ?_)
              have hG409 := g_wf hG W407 rfl rfl (by decide)
              have F410 := FR.w F0 W407 (show 77 = 77 ∧ (4 = 4 ∨ 4 = 5 ∨ 7 ≤ 4 ∧ 4 ≤ 10) ∨ 77 = 77 ∧ (4 = 44 ∨ 4 = 52) ∨ 101 ≤ 77 ∧ 77 ≤ 108 by decide)
              refine to_an (pc := 5) rw_152_5 rfl ?_
              refine to_an (pc := 6) rw_152_6 rfl ?_
              have c_411 : M408.2.1 77 10 = (M.2.1 77 10) := (W_n W407 (by decide) rfl)
              refine tt_gI (pc := 7) rw_152_7 (g_o hG409 rfl) (v := (M.2.1 77 10)) c_411 ?_
              refine s_pI (pc := 10) rw_152_10 hG409 rfl (fun M413 W412 => ?_)
              have hG414 := g_wf hG409 W412 rfl rfl (by decide)
              have F415 := FR.w F410 W412 (show 77 = 77 ∧ (5 = 4 ∨ 5 = 5 ∨ 7 ≤ 5 ∧ 5 ≤ 10) ∨ 77 = 77 ∧ (5 = 44 ∨ 5 = 52) ∨ 101 ≤ 77 ∧ 77 ≤ 108 by decide)
              refine to_c (pc := 13) rw_152_13 (x := (0 : Int32)) rfl rfl ?_
              refine s_r1 (pc := 14) rw_152_14 (A := 0) rfl (by decide) ?_
              refine s_r1 (pc := 105) rw_215_105 (A := 0) rfl (by decide) ?_
              have k_416 : (0 : Int32).toInt = 0 := rfl
              have c_417 : M413.2.1 77 4 = (2 : Int32) := (W_n W412 (by decide) (W_e W407))
              have k_418 : (2 : Int32).toInt = 2 := rfl
              have t_419 : (M413.2.1 77 4).toInt = (2 : Int32).toInt := congrArg Int32.toInt c_417
              have c_420 : M413.2.1 77 5 = (M.2.1 77 10) := (W_e W412)
              have t_421 : (M413.2.1 77 5).toInt = (M.2.1 77 10).toInt := congrArg Int32.toInt c_420
              exact h (0 : Int32) M413 hG414 F415 (by decide) (by decide) (fun z => by exfalso; omega) (fun z => by exfalso; omega) (fun _ => winl (by omega) (by omega) (w_40 (by omega) (by omega) (by omega) (by omega) (by omega)))
          · have z_422 := RS_1 q1 (a := a) (by omega) (by omega)
            refine to_an (pc := 85) rw_215_85 rfl ?_
            refine to_c (pc := 86) rw_215_86 (x := (1 : Int32)) rfl rfl ?_
            refine s_v (pc := 87) rw_215_87 (dp0 hd (by decide)) (ls0 := [.ref 77, .int (1 : Int32)]) rfl (Nat.le_of_ble_eq_true rfl) (Nat.le_of_ble_eq_true rfl) rfl (to_rc rfl rfl rfl (g_o hG rfl)) rfl ?_
            refine to_an (pc := 0) rw_152_0 rfl ?_
            refine to_in (pc := 1) rw_152_1 rfl ?_
            refine s_pI (pc := 2) rw_152_2 hG rfl (fun M424 W423 => ?_)
            have hG425 := g_wf hG W423 rfl rfl (by decide)
            have F426 := FR.w F0 W423 (show 77 = 77 ∧ (4 = 4 ∨ 4 = 5 ∨ 7 ≤ 4 ∧ 4 ≤ 10) ∨ 77 = 77 ∧ (4 = 44 ∨ 4 = 52) ∨ 101 ≤ 77 ∧ 77 ≤ 108 by decide)
            refine to_an (pc := 5) rw_152_5 rfl ?_
            refine to_an (pc := 6) rw_152_6 rfl ?_
            have c_427 : M424.2.1 77 10 = (M.2.1 77 10) := (W_n W423 (by decide) rfl)
            refine tt_gI (pc := 7) rw_152_7 (g_o hG425 rfl) (v := (M.2.1 77 10)) c_427 ?_
            refine s_pI (pc := 10) rw_152_10 hG425 rfl (fun M429 W428 => ?_)
            have hG430 := g_wf hG425 W428 rfl rfl (by decide)
            have F431 := FR.w F426 W428 (show 77 = 77 ∧ (5 = 4 ∨ 5 = 5 ∨ 7 ≤ 5 ∧ 5 ≤ 10) ∨ 77 = 77 ∧ (5 = 44 ∨ 5 = 52) ∨ 101 ≤ 77 ∧ 77 ≤ 108 by decide)
            refine to_c (pc := 13) rw_152_13 (x := (0 : Int32)) rfl rfl ?_
            refine s_r1 (pc := 14) rw_152_14 (A := 0) rfl (by decide) ?_
            refine s_r1 (pc := 90) rw_215_90 (A := 0) rfl (by decide) ?_
            have k_432 : (0 : Int32).toInt = 0 := rfl
            have c_433 : M429.2.1 77 4 = (1 : Int32) := (W_n W428 (by decide) (W_e W423))
            have k_434 : (1 : Int32).toInt = 1 := rfl
            have t_435 : (M429.2.1 77 4).toInt = (1 : Int32).toInt := congrArg Int32.toInt c_433
            have c_436 : M429.2.1 77 5 = (M.2.1 77 10) := (W_e W428)
            have t_437 : (M429.2.1 77 5).toInt = (M.2.1 77 10).toInt := congrArg Int32.toInt c_436
            exact h (0 : Int32) M429 hG430 F431 (by decide) (by decide) (fun z => by exfalso; omega) (fun z => by exfalso; omega) (fun _ => winl (by omega) (by omega) (w_kx (by omega) (by omega) (by omega) (by omega)))
  · refine to_an (pc := 8) rw_159_8 rfl ?_
    refine tt_gI (pc := 9) rw_159_9 (g_o hG rfl) (v := (M.2.1 77 9)) rfl ?_
    refine to_in (pc := 12) rw_159_12 rfl ?_
    refine b_cne (pc := 13) rw_159_13 (A := (M.2.1 77 9).toInt) (B := 41) rfl rfl (fun h438 => ?_) (fun h438 => ?_)
    · refine to_c (pc := 20) rw_159_20 (x := (0 : Int32)) rfl rfl ?_
      refine s_r1 (pc := 21) rw_159_21 (A := 0) rfl (by decide) ?_
      refine b_ieq_t (pc := 6) rw_215_6 (A := 0) rfl (by decide) ?_
      have z_439 := RS_4 q1 (a := a) (by omega) (by omega)
      refine to_an (pc := 50) rw_215_50 rfl ?_
      refine tt_gI (pc := 51) rw_215_51 (g_o hG rfl) (v := (M.2.1 77 8)) rfl ?_
      refine to_c (pc := 54) rw_215_54 (x := (1 : Int32)) rfl rfl ?_
      refine b_cne_t (pc := 55) rw_215_55 (A := (M.2.1 77 8).toInt) (B := 1) rfl rfl (by omega) ?_
      refine to_an (pc := 85) rw_215_85 rfl ?_
      refine to_c (pc := 86) rw_215_86 (x := (1 : Int32)) rfl rfl ?_
      refine s_v (pc := 87) rw_215_87 (dp0 hd (by decide)) (ls0 := [.ref 77, .int (1 : Int32)]) rfl (Nat.le_of_ble_eq_true rfl) (Nat.le_of_ble_eq_true rfl) rfl (to_rc rfl rfl rfl (g_o hG rfl)) rfl ?_
      refine to_an (pc := 0) rw_152_0 rfl ?_
      refine to_in (pc := 1) rw_152_1 rfl ?_
      refine s_pI (pc := 2) rw_152_2 hG rfl (fun M441 W440 => ?_)
      have hG442 := g_wf hG W440 rfl rfl (by decide)
      have F443 := FR.w F0 W440 (show 77 = 77 ∧ (4 = 4 ∨ 4 = 5 ∨ 7 ≤ 4 ∧ 4 ≤ 10) ∨ 77 = 77 ∧ (4 = 44 ∨ 4 = 52) ∨ 101 ≤ 77 ∧ 77 ≤ 108 by decide)
      refine to_an (pc := 5) rw_152_5 rfl ?_
      refine to_an (pc := 6) rw_152_6 rfl ?_
      have c_444 : M441.2.1 77 10 = (M.2.1 77 10) := (W_n W440 (by decide) rfl)
      refine tt_gI (pc := 7) rw_152_7 (g_o hG442 rfl) (v := (M.2.1 77 10)) c_444 ?_
      refine s_pI (pc := 10) rw_152_10 hG442 rfl (fun M446 W445 => ?_)
      have hG447 := g_wf hG442 W445 rfl rfl (by decide)
      have F448 := FR.w F443 W445 (show 77 = 77 ∧ (5 = 4 ∨ 5 = 5 ∨ 7 ≤ 5 ∧ 5 ≤ 10) ∨ 77 = 77 ∧ (5 = 44 ∨ 5 = 52) ∨ 101 ≤ 77 ∧ 77 ≤ 108 by decide)
      refine to_c (pc := 13) rw_152_13 (x := (0 : Int32)) rfl rfl ?_
      refine s_r1 (pc := 14) rw_152_14 (A := 0) rfl (by decide) ?_
      refine s_r1 (pc := 90) rw_215_90 (A := 0) rfl (by decide) ?_
      have k_449 : (0 : Int32).toInt = 0 := rfl
      have c_450 : M446.2.1 77 4 = (1 : Int32) := (W_n W445 (by decide) (W_e W440))
      have k_451 : (1 : Int32).toInt = 1 := rfl
      have t_452 : (M446.2.1 77 4).toInt = (1 : Int32).toInt := congrArg Int32.toInt c_450
      have c_453 : M446.2.1 77 5 = (M.2.1 77 10) := (W_e W445)
      have t_454 : (M446.2.1 77 5).toInt = (M.2.1 77 10).toInt := congrArg Int32.toInt c_453
      exact h (0 : Int32) M446 hG447 F448 (by decide) (by decide) (fun z => by exfalso; omega) (fun z => by exfalso; omega) (fun _ => winl (by omega) (by omega) (w_nx (by omega) (by omega) (by omega) (by omega) (by omega)))
    · refine to_c (pc := 16) rw_159_16 (x := (1 : Int32)) rfl rfl ?_
      refine to_go (pc := 17) rw_159_17 ?_
      refine s_r1 (pc := 21) rw_159_21 (A := 1) rfl (by decide) ?_
      refine b_ieq_f (pc := 6) rw_215_6 (A := 1) rfl (by decide) ?_
      refine to_an (pc := 9) rw_215_9 rfl ?_
      refine tt_gI (pc := 10) rw_215_10 (g_o hG rfl) (v := (M.2.1 77 52)) rfl ?_
      refine b_ile (pc := 13) rw_215_13 (A := (M.2.1 77 52).toInt) rfl (fun h455 => ?_) (fun h455 => ?_)
      · have z_456 := RS_4 q1 (a := a) (by omega) (by omega)
        refine to_an (pc := 50) rw_215_50 rfl ?_
        refine tt_gI (pc := 51) rw_215_51 (g_o hG rfl) (v := (M.2.1 77 8)) rfl ?_
        refine to_c (pc := 54) rw_215_54 (x := (1 : Int32)) rfl rfl ?_
        refine b_cne_t (pc := 55) rw_215_55 (A := (M.2.1 77 8).toInt) (B := 1) rfl rfl (by omega) ?_
        refine to_an (pc := 85) rw_215_85 rfl ?_
        refine to_c (pc := 86) rw_215_86 (x := (1 : Int32)) rfl rfl ?_
        refine s_v (pc := 87) rw_215_87 (dp0 hd (by decide)) (ls0 := [.ref 77, .int (1 : Int32)]) rfl (Nat.le_of_ble_eq_true rfl) (Nat.le_of_ble_eq_true rfl) rfl (to_rc rfl rfl rfl (g_o hG rfl)) rfl ?_
        refine to_an (pc := 0) rw_152_0 rfl ?_
        refine to_in (pc := 1) rw_152_1 rfl ?_
        refine s_pI (pc := 2) rw_152_2 hG rfl (fun M458 W457 => ?_)
        have hG459 := g_wf hG W457 rfl rfl (by decide)
        have F460 := FR.w F0 W457 (show 77 = 77 ∧ (4 = 4 ∨ 4 = 5 ∨ 7 ≤ 4 ∧ 4 ≤ 10) ∨ 77 = 77 ∧ (4 = 44 ∨ 4 = 52) ∨ 101 ≤ 77 ∧ 77 ≤ 108 by decide)
        refine to_an (pc := 5) rw_152_5 rfl ?_
        refine to_an (pc := 6) rw_152_6 rfl ?_
        have c_461 : M458.2.1 77 10 = (M.2.1 77 10) := (W_n W457 (by decide) rfl)
        refine tt_gI (pc := 7) rw_152_7 (g_o hG459 rfl) (v := (M.2.1 77 10)) c_461 ?_
        refine s_pI (pc := 10) rw_152_10 hG459 rfl (fun M463 W462 => ?_)
        have hG464 := g_wf hG459 W462 rfl rfl (by decide)
        have F465 := FR.w F460 W462 (show 77 = 77 ∧ (5 = 4 ∨ 5 = 5 ∨ 7 ≤ 5 ∧ 5 ≤ 10) ∨ 77 = 77 ∧ (5 = 44 ∨ 5 = 52) ∨ 101 ≤ 77 ∧ 77 ≤ 108 by decide)
        refine to_c (pc := 13) rw_152_13 (x := (0 : Int32)) rfl rfl ?_
        refine s_r1 (pc := 14) rw_152_14 (A := 0) rfl (by decide) ?_
        refine s_r1 (pc := 90) rw_215_90 (A := 0) rfl (by decide) ?_
        have k_466 : (0 : Int32).toInt = 0 := rfl
        have c_467 : M463.2.1 77 4 = (1 : Int32) := (W_n W462 (by decide) (W_e W457))
        have k_468 : (1 : Int32).toInt = 1 := rfl
        have t_469 : (M463.2.1 77 4).toInt = (1 : Int32).toInt := congrArg Int32.toInt c_467
        have c_470 : M463.2.1 77 5 = (M.2.1 77 10) := (W_e W462)
        have t_471 : (M463.2.1 77 5).toInt = (M.2.1 77 10).toInt := congrArg Int32.toInt c_470
        exact h (0 : Int32) M463 hG464 F465 (by decide) (by decide) (fun z => by exfalso; omega) (fun z => by exfalso; omega) (fun _ => winl (by omega) (by omega) (w_nx (by omega) (by omega) (by omega) (by omega) (by omega)))
      · have z_472 := RS_4 q1 (a := a) (by omega) (by omega)
        refine to_an (pc := 16) rw_215_16 rfl ?_
        refine to_dupr (pc := 17) rw_215_17 ?_
        refine tt_gI (pc := 18) rw_215_18 (g_o hG rfl) (v := (M.2.1 77 52)) rfl ?_
        refine to_c (pc := 21) rw_215_21 (x := (1 : Int32)) rfl rfl ?_
        refine s_sub (pc := 22) rw_215_22 (A := (M.2.1 77 52).toInt) (B := 1) rfl rfl (by omega) (fun v473 e474 => ?_)
        refine s_pI (pc := 23) rw_215_23 hG rfl (fun M476 W475 => ?_)
        have hG477 := g_w hG W475 (A := v473.toInt) rfl (lo := 0) (hi := 5) rfl rfl (by omega) (by decide)
        have F478 := FR.w F0 W475 (show 77 = 77 ∧ (52 = 4 ∨ 52 = 5 ∨ 7 ≤ 52 ∧ 52 ≤ 10) ∨ 77 = 77 ∧ (52 = 44 ∨ 52 = 52) ∨ 101 ≤ 77 ∧ 77 ≤ 108 by decide)
        refine to_an (pc := 26) rw_215_26 rfl ?_
        refine s_gR (pc := 27) rw_215_27 hG477 rfl (v := 105) rfl ?_
        refine to_an (pc := 30) rw_215_30 rfl ?_
        refine s_gR (pc := 31) rw_215_31 hG477 rfl (v := 108) rfl ?_
        refine to_an (pc := 34) rw_215_34 rfl ?_
        have c_479 : M476.2.1 77 52 = v473 := (W_e W475)
        refine tt_gI (pc := 35) rw_215_35 (g_o hG477 rfl) (v := v473) c_479 ?_
        refine s_ial (pc := 38) rw_215_38 hG477 rfl (n := 5) rfl rfl (A := v473.toInt) rfl (by omega) (by omega) (lo := 0) (hi := 39) rfl rfl (fun v480 w_481 _ _ => ?_)
        refine to_an (pc := 39) rw_215_39 rfl ?_
        have c_482 : M476.2.1 77 44 = (M.2.1 77 44) := (W_n W475 (by decide) rfl)
        refine tt_gI (pc := 40) rw_215_40 (g_o hG477 rfl) (v := (M.2.1 77 44)) c_482 ?_
        refine s_ias (pc := 43) rw_215_43 hG477 rfl (n := 40) rfl (A := v480.toInt) rfl (by omega) (by omega) (fun M484 W483 => ?_)
        have hG485 := g_w hG477 W483 (A := (M.2.1 77 44).toInt) rfl (lo := 0) (hi := 40) rfl rfl (by omega) (by decide)
        have F486 := FR.w F478 W483 (show 105 = 77 ∧ ((v480.toInt).toNat = 4 ∨ (v480.toInt).toNat = 5 ∨ 7 ≤ (v480.toInt).toNat ∧ (v480.toInt).toNat ≤ 10) ∨ 105 = 77 ∧ ((v480.toInt).toNat = 44 ∨ (v480.toInt).toNat = 52) ∨ 101 ≤ 105 ∧ 105 ≤ 108 by omega)
        refine to_an (pc := 44) rw_215_44 rfl ?_
        refine s_v (pc := 45) rw_215_45 (dp0 hd (by decide)) (ls0 := [.ref 77]) rfl (Nat.le_of_ble_eq_true rfl) (Nat.le_of_ble_eq_true rfl) rfl (to_rc rfl rfl rfl (g_o hG485 rfl)) rfl ?_
        have c_487 : M484.2.1 77 7 = (M.2.1 77 7) := (W_n W483 (fun z => absurd z.1 (by decide)) (W_n W475 (by decide) rfl))
        have t_488 : (M484.2.1 77 7).toInt = (M.2.1 77 7).toInt := congrArg Int32.toInt c_487
        have c_489 : M484.2.1 77 6 = (M.2.1 77 6) := (W_n W483 (fun z => absurd z.1 (by decide)) (W_n W475 (by decide) rfl))
        have t_490 : (M484.2.1 77 6).toInt = (M.2.1 77 6).toInt := congrArg Int32.toInt c_489
        have c_491 : M484.2.1 77 10 = (M.2.1 77 10) := (W_n W483 (fun z => absurd z.1 (by decide)) (W_n W475 (by decide) rfl))
        have t_492 : (M484.2.1 77 10).toInt = (M.2.1 77 10).toInt := congrArg Int32.toInt c_491
        have j_493 := (RS_f (fun a i z => W_n W483 (tg_184 a i _ z) rfl) (RS_f (fun a i z => W_n W475 (tg_178 a i z) rfl) q1))
        have z_494 := RS_b j_493 (a := a) (by omega)
        have j_495 := (TR_f (fun a i z => W_n W483 (tg_185 a i _ z) rfl) (TR_f (fun a i z => W_n W475 (tg_180 a i z) rfl) q5))
        have j_496 := (W9_f (fun a i z => W_n W483 (tg_186 a i _ z) rfl) (W9_f (fun a i z => W_n W475 (tg_182 a i z) rfl) q6))
        refine E_156 hX (dp1 hd (by decide)) hG485 (by omega) (by omega) (by omega) (by omega) j_495 j_496  (fun M503 hG498 F497 p_499 p_500 p_501 p_502 => ?_)
        have F504 := FR.c F486 F497 tg_168
        have b_505 := g_b hG498 (a := 77) (i := 7) (lo := 0) (hi := 500) rfl rfl
        have c_506 : M503.2.1 77 6 = (M.2.1 77 6) := (F_n F497 (show ¬ (77 = 77 ∧ 7 ≤ 6 ∧ 6 ≤ 10) by decide) c_489)
        have t_507 : (M503.2.1 77 6).toInt = (M.2.1 77 6).toInt := congrArg Int32.toInt c_506
        have b_508 := g_b hG498 (a := 77) (i := 8) (lo := 0) (hi := 5) rfl rfl
        have b_509 := g_b hG498 (a := 77) (i := 10) (lo := 0) (hi := 500) rfl rfl
        have z_510 := RS_s p_502.2 (a := a) (by omega)
        refine to_c (pc := 48) rw_215_48 (x := (1 : Int32)) rfl rfl ?_
        refine s_r1 (pc := 49) rw_215_49 (A := 1) rfl (by decide) ?_
        have k_511 : (1 : Int32).toInt = 1 := rfl
        have c_512 : M503.2.1 77 44 = (M.2.1 77 44) := (F_n F497 (show ¬ (77 = 77 ∧ 7 ≤ 44 ∧ 44 ≤ 10) by decide) (W_n W483 (fun z => absurd z.1 (by decide)) c_482))
        have t_513 : (M503.2.1 77 44).toInt = (M.2.1 77 44).toInt := congrArg Int32.toInt c_512
        have c_514 : M503.2.1 77 52 = v473 := (F_n F497 (show ¬ (77 = 77 ∧ 7 ≤ 52 ∧ 52 ≤ 10) by decide) (W_n W483 (fun z => absurd z.1 (by decide)) c_479))
        have t_515 : (M503.2.1 77 52).toInt = v473.toInt := congrArg Int32.toInt c_514
        exact h (1 : Int32) M503 hG498 F504 (by decide) (by decide) (fun _ => p_502.1) (fun _ => WS_c (k := (v473.toInt).toNat) q11 q12 q13 q14 rfl (by omega) (by omega) (by omega) (by omega) (by omega) ((W_n W475 (by omega) rfl).symm.trans w_481) (fun r i z => (F_n F497 (show ¬ (r = 77 ∧ 7 ≤ i ∧ i ≤ 10) by omega) (W_n W483 (by omega) (W_n W475 (by omega) rfl)))) (fun i z => (F_n F497 (show ¬ (105 = 77 ∧ 7 ≤ i ∧ i ≤ 10) by omega) (W_n W483 (by omega) (W_n W475 (by omega) rfl)))) (by rw [show M503.2.1 105 (v480.toInt).toNat = (M.2.1 77 44) from (F_n F497 (show ¬ (105 = 77 ∧ 7 ≤ ((v480.toInt).toNat) ∧ ((v480.toInt).toNat) ≤ 10) by omega) (W_e W483))]; omega) (by omega) (by omega) (by omega)) (fun z => by exfalso; omega)
