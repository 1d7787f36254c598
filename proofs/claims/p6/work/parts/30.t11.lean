theorem tg_481 {M M1 : mm_M} (F : FR (fun a i : Nat => a = 99 ∨ a = 100) M M1) : ∀ a i : Nat, (a = 101 ∨ a = 102 ∨ a = 105) → M1.2.1 a i = M.2.1 a i := fun a i z => F_n F (show ¬ (a = 99 ∨ a = 100) by omega) rfl
theorem tg_482 {M M1 : mm_M} (F : FR (fun a i : Nat => a = 77 ∧ i = 42 ∨ a = 99 ∨ a = 100 ∨ a = 109) M M1) : ∀ a i : Nat, (a = 101 ∨ a = 102 ∨ a = 105) → M1.2.1 a i = M.2.1 a i := fun a i z => F_n F (show ¬ (a = 77 ∧ i = 42 ∨ a = 99 ∨ a = 100 ∨ a = 109) by omega) rfl
theorem tg_483 {M M1 : mm_M} (F : FR (fun a i : Nat => 94 ≤ a ∧ a ≤ 98) M M1) : ∀ a i : Nat, (a = 101 ∨ a = 102 ∨ a = 105) → M1.2.1 a i = M.2.1 a i := fun a i z => F_n F (show ¬ (94 ≤ a ∧ a ≤ 98) by omega) rfl
theorem tg_484 : ∀ a i j : Nat, (a = 101 ∨ a = 102 ∨ a = 105) → ¬ (a = 111 ∧ i = j) := fun a i j z => by omega
theorem tg_485 : ∀ a i j : Nat, (a = 101 ∨ a = 102 ∨ a = 105) → ¬ (a = 110 ∧ i = j) := fun a i j z => by omega
theorem tg_486 : ∀ a i : Nat, (a = 101 ∨ a = 102 ∨ a = 105) → ¬ (a = 77 ∧ i = 43) := fun a i z => by omega
theorem tg_487 : ∀ a i : Nat, (a = 101 ∨ a = 102 ∨ a = 105) → ¬ (a = 77 ∧ i = 42) := fun a i z => by omega
set_option maxRecDepth 4000 in
set_option maxHeartbeats 0 in
theorem U_216_0 {X : mm_X} {d : Nat} {M : mm_M} {Q : Option Value → mm_M → Prop} {a : Int32} (hX : g_X X) (hd : 2 ≤ d) (q1 : 0 ≤ a.toInt) (q2 : a.toInt ≤ 39) (q3 : 0 ≤ (M.2.1 102 (a.toInt).toNat).toInt) (q4 : (M.2.1 102 (a.toInt).toNat).toInt ≤ 5) (q5 : 0 ≤ (M.2.1 103 (a.toInt).toNat).toInt) (q6 : 0 ≤ (M.2.1 104 (a.toInt).toNat).toInt) (q7 : PS M) (q8 : (M.2.1 77 42).toInt ≤ 2999) (h : ∀ (M1 : mm_M), g_G M1 → FR md_pa M M1 → PS M1 → ((M1.2.1 77 42).toInt = (M.2.1 77 42).toInt + 1) → Q (none) M1) : ∀ nn9 : Nat, (∀ (N : mm_M) (y2 : Int64) (u4 : Value) (x5 : Int32) (x6 : Int32), g_G N → FR md_pa M N → (0 ≤ x6.toInt) → (x6.toInt ≤ 30) → (0 ≤ x5.toInt) → (x5.toInt ≤ 30) → (x6.toInt ≤ x5.toInt) → (PSm N + (x5.toInt - x6.toInt) ≤ (N.2.1 77 28).toInt) → (0 ≤ (N.2.1 102 (a.toInt).toNat).toInt) → ((N.2.1 102 (a.toInt).toNat).toInt ≤ 5) → (0 ≤ (N.2.1 103 (a.toInt).toNat).toInt) → (0 ≤ (N.2.1 104 (a.toInt).toNat).toInt) → ((N.2.1 77 42).toInt = (M.2.1 77 42).toInt) → 30 - x6.toInt < (nn9 : Int) → mm_T X d 215 118 [.ref 77, .int a, .long y2, .null, u4, .int x5, .int x6] [] N Q) := by
  intro nn9
  induction nn9 with
  | zero =>
    intro N y2 u4 x5 x6 hG F0 g1 g2 g3 g4 g5 g6 g7 g8 g9 g10 g11 hm
    exfalso; omega
  | succ nn9 ih =>
    intro N y2 u4 x5 x6 hG F0 g1 g2 g3 g4 g5 g6 g7 g8 g9 g10 g11 hm
    have b_1 := g_b hG (a := 77) (i := 28) (lo := 0) (hi := 30) rfl rfl
    refine to_i (pc := 118) rw_216_118 rfl (to_i (pc := 120) rw_216_120 rfl (b_cge (pc := 122) rw_216_122 (A := x6.toInt) (B := x5.toInt) rfl rfl (fun h2 => ?_) (fun h2 => ?_)))
    · refine to_an (pc := 172) rw_216_172 rfl (to_dupr (pc := 173) rw_216_173 (tt_gI (pc := 174) rw_216_174 (g_o hG rfl) (v := (N.2.1 77 42)) rfl (to_c (pc := 177) rw_216_177 (x := (1 : Int32)) rfl rfl ?_)))
      have i_5 := i_of (x := (N.2.1 77 42))
      refine s_add (pc := 178) rw_216_178 (A := (N.2.1 77 42).toInt) (B := 1) rfl rfl (by omega) (fun v3 e4 => s_pI (pc := 179) rw_216_179 hG rfl (fun M7 W6 => ?_))
      have hG8 := g_wf hG W6 rfl rfl (by decide)
      have F9 := FR.w F0 W6 (show 77 = 77 ∧ 42 = 42 ∨ 77 = 99 ∨ 77 = 100 ∨ 77 = 109 by decide)
      refine to_rv (pc := 182) rw_216_182 ?_
      have s_10 : PSm M7 = PSm N := PSm_f (fun i => W_n W6 (by omega) rfl)
      have c_11 : M7.2.1 77 28 = (N.2.1 77 28) := (W_n W6 (by decide) rfl)
      have t_12 : (M7.2.1 77 28).toInt = (N.2.1 77 28).toInt := congrArg Int32.toInt c_11
      have j_13 : PS M7 := PS_i (by omega)
      have c_14 : M7.2.1 77 42 = v3 := (W_e W6)
      have t_15 : (M7.2.1 77 42).toInt = v3.toInt := congrArg Int32.toInt c_14
      exact h M7 hG8 F9 j_13 (by omega)
    · refine to_an (pc := 125) rw_216_125 rfl (to_an (pc := 126) rw_216_126 rfl (to_an (pc := 127) rw_216_127 rfl (s_gR (pc := 128) rw_216_128 hG rfl (v := 109) rfl (to_i (pc := 131) rw_216_131 rfl (s_ial (pc := 133) rw_216_133 hG rfl (n := 30) rfl rfl (A := x6.toInt) rfl (by omega) (by omega) (lo := 0) (hi := 29) rfl rfl (fun v16 w_17 _ _ => to_ln (pc := 134) rw_216_134 rfl rfl rfl (s_v (pc := 135) rw_216_135 (dp0 hd (by decide)) (ls0 := [.ref 77, .int v16, .long y2, .null, .null]) rfl (Nat.le_of_ble_eq_true rfl) (Nat.le_of_ble_eq_true rfl) rfl (to_rc rfl rfl rfl (g_o hG rfl)) rfl (C_207 hX (dp1 hd (by decide)) hG (by omega) (by omega) (c := v16) (x := y2) (fun r18 M23 hG20 F19 p_21 p_22 => ?_)))))))))
      have F24 := FR.c F0 F19 tg_354
      refine b_ieq (pc := 138) rw_216_138 (A := r18.toInt) rfl (fun h25 => ?_) (fun h25 => ?_)
      · refine to_an (pc := 150) rw_216_150 rfl (s_gR (pc := 151) rw_216_151 hG20 rfl (v := 104) rfl (to_in (pc := 154) rw_216_154 rfl (s_ial (pc := 155) rw_216_155 hG20 rfl (n := 40) rfl rfl (A := a.toInt) rfl (by omega) (by omega) (lo := -1) (hi := 5) rfl rfl (fun v26 w_27 _ _ => ?_))))
        have t_28 := congrArg Int32.toInt w_27
        have t_29 : (M23.2.1 104 (a.toInt).toNat).toInt = (N.2.1 104 (a.toInt).toNat).toInt := congrArg Int32.toInt (F_n F19 (show ¬ (104 < 0) by decide) rfl)
        refine to_an (pc := 156) rw_216_156 rfl (s_gR (pc := 157) rw_216_157 hG20 rfl (v := 109) rfl (to_i (pc := 160) rw_216_160 rfl (s_ialk (pc := 162) rw_216_162 hG20 rfl (n := 30) rfl rfl (A := x6.toInt) rfl (by omega) (by omega) (v := v16) (F_n F19 (show ¬ (109 < 0) by decide) w_17) (s_v (pc := 163) rw_216_163 (dp0 hd (by decide)) (ls0 := [.ref 77, .int v26, .int v16]) rfl (Nat.le_of_ble_eq_true rfl) (Nat.le_of_ble_eq_true rfl) rfl (to_rc rfl rfl rfl (g_o hG20 rfl)) rfl ?_))))
        have s_32 : PSm M23 = PSm N := PSm_f (fun i => F_n F19 (show ¬ (100 < 0) by decide) rfl)
        have s_33 := PSm_le hG20 (p := (v26.toInt).toNat) (by omega)
        have t_34 : (M23.2.1 100 (v26.toInt).toNat).toInt = (N.2.1 100 (v26.toInt).toNat).toInt := congrArg Int32.toInt (F_n F19 (show ¬ (100 < 0) by decide) rfl)
        refine C_210 hX (dp1 hd (by decide)) hG20 (by omega) (by omega) (by omega) (by omega) (by omega) (p := v26) (c := v16) (fun M38 hG36 F35 p_37 => ?_)
        have F39 := FR.c F24 F35 tg_355
        have s_40 : PSm M38 = PSm M23 - (M23.2.1 100 (v26.toInt).toNat).toInt + (M38.2.1 100 (v26.toInt).toNat).toInt := PSm_set (by omega) p_37.1
        have s_41 := p_37.2
        refine s_inc (pc := 166) rw_216_166 (ls2 := fun v => [.ref 77, .int a, .long y2, .null, u4, .int x5, .int v]) rfl rfl (fun _ => rfl) (A := x6.toInt) (B := 1) rfl rfl (by omega) (fun v42 e43 => to_go (pc := 169) rw_216_169 ?_)
        have c_44 : M38.2.1 77 28 = (N.2.1 77 28) := (F_n F35 (show ¬ (77 = 99 ∨ 77 = 100) by decide) (F_n F19 (show ¬ (77 < 0) by decide) rfl))
        have t_45 : (M38.2.1 77 28).toInt = (N.2.1 77 28).toInt := congrArg Int32.toInt c_44
        have t_46 : (M38.2.1 102 (a.toInt).toNat).toInt = (N.2.1 102 (a.toInt).toNat).toInt := congrArg Int32.toInt (F_n F35 (show ¬ (102 = 99 ∨ 102 = 100) by decide) (F_n F19 (show ¬ (102 < 0) by decide) rfl))
        have t_47 : (M38.2.1 102 (a.toInt).toNat).toInt = (N.2.1 102 (a.toInt).toNat).toInt := congrArg Int32.toInt (F_n F35 (show ¬ (102 = 99 ∨ 102 = 100) by decide) (F_n F19 (show ¬ (102 < 0) by decide) rfl))
        have t_48 : (M38.2.1 103 (a.toInt).toNat).toInt = (N.2.1 103 (a.toInt).toNat).toInt := congrArg Int32.toInt (F_n F35 (show ¬ (103 = 99 ∨ 103 = 100) by decide) (F_n F19 (show ¬ (103 < 0) by decide) rfl))
        have t_49 : (M38.2.1 104 (a.toInt).toNat).toInt = (N.2.1 104 (a.toInt).toNat).toInt := congrArg Int32.toInt (F_n F35 (show ¬ (104 = 99 ∨ 104 = 100) by decide) (F_n F19 (show ¬ (104 < 0) by decide) rfl))
        have c_50 : M38.2.1 77 42 = (N.2.1 77 42) := (F_n F35 (show ¬ (77 = 99 ∨ 77 = 100) by decide) (F_n F19 (show ¬ (77 < 0) by decide) rfl))
        have t_51 : (M38.2.1 77 42).toInt = (N.2.1 77 42).toInt := congrArg Int32.toInt c_50
        exact ih M38 y2 (u4) x5 v42 hG36 F39 (by omega) (by omega) (by omega) (by omega) (by omega) (by omega) (by omega) (by omega) (by omega) (by omega) (by omega) (by omega)
      · refine to_an (pc := 141) rw_216_141 rfl (s_gR (pc := 142) rw_216_142 hG20 rfl (v := 103) rfl (to_in (pc := 145) rw_216_145 rfl (s_ial (pc := 146) rw_216_146 hG20 rfl (n := 40) rfl rfl (A := a.toInt) rfl (by omega) (by omega) (lo := -1) (hi := 5) rfl rfl (fun v52 w_53 _ _ => ?_))))
        have t_54 := congrArg Int32.toInt w_53
        have t_55 : (M23.2.1 103 (a.toInt).toNat).toInt = (N.2.1 103 (a.toInt).toNat).toInt := congrArg Int32.toInt (F_n F19 (show ¬ (103 < 0) by decide) rfl)
        refine to_go (pc := 147) rw_216_147 (to_an (pc := 156) rw_216_156 rfl (s_gR (pc := 157) rw_216_157 hG20 rfl (v := 109) rfl (to_i (pc := 160) rw_216_160 rfl (s_ialk (pc := 162) rw_216_162 hG20 rfl (n := 30) rfl rfl (A := x6.toInt) rfl (by omega) (by omega) (v := v16) (F_n F19 (show ¬ (109 < 0) by decide) w_17) (s_v (pc := 163) rw_216_163 (dp0 hd (by decide)) (ls0 := [.ref 77, .int v52, .int v16]) rfl (Nat.le_of_ble_eq_true rfl) (Nat.le_of_ble_eq_true rfl) rfl (to_rc rfl rfl rfl (g_o hG20 rfl)) rfl ?_)))))
        have s_58 : PSm M23 = PSm N := PSm_f (fun i => F_n F19 (show ¬ (100 < 0) by decide) rfl)
        have s_59 := PSm_le hG20 (p := (v52.toInt).toNat) (by omega)
        have t_60 : (M23.2.1 100 (v52.toInt).toNat).toInt = (N.2.1 100 (v52.toInt).toNat).toInt := congrArg Int32.toInt (F_n F19 (show ¬ (100 < 0) by decide) rfl)
        refine C_210 hX (dp1 hd (by decide)) hG20 (by omega) (by omega) (by omega) (by omega) (by omega) (p := v52) (c := v16) (fun M64 hG62 F61 p_63 => ?_)
        have F65 := FR.c F24 F61 tg_355
        have s_66 : PSm M64 = PSm M23 - (M23.2.1 100 (v52.toInt).toNat).toInt + (M64.2.1 100 (v52.toInt).toNat).toInt := PSm_set (by omega) p_63.1
        have s_67 := p_63.2
        refine s_inc (pc := 166) rw_216_166 (ls2 := fun v => [.ref 77, .int a, .long y2, .null, u4, .int x5, .int v]) rfl rfl (fun _ => rfl) (A := x6.toInt) (B := 1) rfl rfl (by omega) (fun v68 e69 => to_go (pc := 169) rw_216_169 ?_)
        have c_70 : M64.2.1 77 28 = (N.2.1 77 28) := (F_n F61 (show ¬ (77 = 99 ∨ 77 = 100) by decide) (F_n F19 (show ¬ (77 < 0) by decide) rfl))
        have t_71 : (M64.2.1 77 28).toInt = (N.2.1 77 28).toInt := congrArg Int32.toInt c_70
        have t_72 : (M64.2.1 102 (a.toInt).toNat).toInt = (N.2.1 102 (a.toInt).toNat).toInt := congrArg Int32.toInt (F_n F61 (show ¬ (102 = 99 ∨ 102 = 100) by decide) (F_n F19 (show ¬ (102 < 0) by decide) rfl))
        have t_73 : (M64.2.1 102 (a.toInt).toNat).toInt = (N.2.1 102 (a.toInt).toNat).toInt := congrArg Int32.toInt (F_n F61 (show ¬ (102 = 99 ∨ 102 = 100) by decide) (F_n F19 (show ¬ (102 < 0) by decide) rfl))
        have t_74 : (M64.2.1 103 (a.toInt).toNat).toInt = (N.2.1 103 (a.toInt).toNat).toInt := congrArg Int32.toInt (F_n F61 (show ¬ (103 = 99 ∨ 103 = 100) by decide) (F_n F19 (show ¬ (103 < 0) by decide) rfl))
        have t_75 : (M64.2.1 104 (a.toInt).toNat).toInt = (N.2.1 104 (a.toInt).toNat).toInt := congrArg Int32.toInt (F_n F61 (show ¬ (104 = 99 ∨ 104 = 100) by decide) (F_n F19 (show ¬ (104 < 0) by decide) rfl))
        have c_76 : M64.2.1 77 42 = (N.2.1 77 42) := (F_n F61 (show ¬ (77 = 99 ∨ 77 = 100) by decide) (F_n F19 (show ¬ (77 < 0) by decide) rfl))
        have t_77 : (M64.2.1 77 42).toInt = (N.2.1 77 42).toInt := congrArg Int32.toInt c_76
        exact ih M64 y2 (u4) x5 v68 hG62 F65 (by omega) (by omega) (by omega) (by omega) (by omega) (by omega) (by omega) (by omega) (by omega) (by omega) (by omega) (by omega)
set_option maxRecDepth 4000 in
set_option maxHeartbeats 0 in
theorem U_216_1 {X : mm_X} {d : Nat} {M : mm_M} {Q : Option Value → mm_M → Prop} {a : Int32} (hX : g_X X) (hd : 2 ≤ d) (q1 : 0 ≤ a.toInt) (q2 : a.toInt ≤ 39) (q3 : 0 ≤ (M.2.1 102 (a.toInt).toNat).toInt) (q4 : (M.2.1 102 (a.toInt).toNat).toInt ≤ 5) (q5 : 0 ≤ (M.2.1 103 (a.toInt).toNat).toInt) (q6 : 0 ≤ (M.2.1 104 (a.toInt).toNat).toInt) (q7 : PS M) (q8 : (M.2.1 77 42).toInt ≤ 2999) (h : ∀ (M1 : mm_M), g_G M1 → FR md_pa M M1 → PS M1 → ((M1.2.1 77 42).toInt = (M.2.1 77 42).toInt + 1) → Q (none) M1) : ∀ nn9 : Nat, (∀ (N : mm_M) (y2 : Int64) (x4 : Int32) (x5 : Int32) (x6 : Int32), g_G N → FR md_pa M N → (0 ≤ x6.toInt) → (x6.toInt ≤ 30) → (0 ≤ x5.toInt) → (x5.toInt ≤ 30) → (0 ≤ x4.toInt) → (x4.toInt ≤ 5) → ((N.2.1 100 (x4.toInt).toNat).toInt = x5.toInt) → (PS N) → (0 ≤ (N.2.1 102 (a.toInt).toNat).toInt) → ((N.2.1 102 (a.toInt).toNat).toInt ≤ 5) → (0 ≤ (N.2.1 103 (a.toInt).toNat).toInt) → (0 ≤ (N.2.1 104 (a.toInt).toNat).toInt) → ((N.2.1 77 42).toInt = (M.2.1 77 42).toInt) → 30 - x6.toInt < (nn9 : Int) → mm_T X d 215 74 [.ref 77, .int a, .long y2, .null, .int x4, .int x5, .int x6] [] N Q) := by
  intro nn9
  induction nn9 with
  | zero =>
    intro N y2 x4 x5 x6 hG F0 g1 g2 g3 g4 g5 g6 g7 g8 g9 g10 g11 g12 g13 hm
    exfalso; omega
  | succ nn9 ih =>
    intro N y2 x4 x5 x6 hG F0 g1 g2 g3 g4 g5 g6 g7 g8 g9 g10 g11 g12 g13 hm
    have b_78 := g_b hG (a := 77) (i := 28) (lo := 0) (hi := 30) rfl rfl
    have s_79 := PS_e g8
    refine to_i (pc := 74) rw_216_74 rfl (to_i (pc := 76) rw_216_76 rfl (b_cge (pc := 78) rw_216_78 (A := x6.toInt) (B := x5.toInt) rfl rfl (fun h80 => ?_) (fun h80 => ?_)))
    · refine to_an (pc := 107) rw_216_107 rfl (s_gR (pc := 108) rw_216_108 hG rfl (v := 100) rfl (to_i (pc := 111) rw_216_111 rfl (to_c (pc := 113) rw_216_113 (x := (0 : Int32)) rfl rfl (s_ias (pc := 114) rw_216_114 hG rfl (n := 6) rfl (A := x4.toInt) rfl (by omega) (by omega) (fun M82 W81 => ?_)))))
      have hG83 := g_w hG W81 (A := 0) rfl (lo := 0) (hi := 30) rfl rfl (by omega) (by decide)
      have F84 := FR.w F0 W81 (show 100 = 77 ∧ (x4.toInt).toNat = 42 ∨ 100 = 99 ∨ 100 = 100 ∨ 100 = 109 by omega)
      refine to_c (pc := 115) rw_216_115 (x := (0 : Int32)) rfl rfl (to_is (pc := 116) rw_216_116 (ls2 := [.ref 77, .int a, .long y2, .null, .int x4, .int x5, .int (0 : Int32)]) rfl rfl ?_)
      have k_85 : (0 : Int32).toInt = 0 := rfl
      have s_86 : PSm M82 = PSm N - (N.2.1 100 (x4.toInt).toNat).toInt + (M82.2.1 100 (x4.toInt).toNat).toInt := PSm_set (by omega) (fun i z => W_n W81 (by omega) rfl)
      have s_87 : (M82.2.1 100 (x4.toInt).toNat).toInt = (0 : Int32).toInt := congrArg Int32.toInt (W_e W81)
      have c_88 : M82.2.1 77 28 = (N.2.1 77 28) := (W_n W81 (fun z => absurd z.1 (by decide)) rfl)
      have t_89 : (M82.2.1 77 28).toInt = (N.2.1 77 28).toInt := congrArg Int32.toInt c_88
      have t_90 : (M82.2.1 102 (a.toInt).toNat).toInt = (N.2.1 102 (a.toInt).toNat).toInt := congrArg Int32.toInt (W_n W81 (by omega) rfl)
      have t_91 : (M82.2.1 102 (a.toInt).toNat).toInt = (N.2.1 102 (a.toInt).toNat).toInt := congrArg Int32.toInt (W_n W81 (by omega) rfl)
      have t_92 : (M82.2.1 103 (a.toInt).toNat).toInt = (N.2.1 103 (a.toInt).toNat).toInt := congrArg Int32.toInt (W_n W81 (by omega) rfl)
      have t_93 : (M82.2.1 104 (a.toInt).toNat).toInt = (N.2.1 104 (a.toInt).toNat).toInt := congrArg Int32.toInt (W_n W81 (by omega) rfl)
      have c_94 : M82.2.1 77 42 = (N.2.1 77 42) := (W_n W81 (fun z => absurd z.1 (by decide)) rfl)
      have t_95 : (M82.2.1 77 42).toInt = (N.2.1 77 42).toInt := congrArg Int32.toInt c_94
      exact (U_216_0 (a := a) hX hd q1 q2 q3 q4 q5 q6 q7 q8 h ((30 - (0 : Int32).toInt).toNat + 1)) M82 y2 (.int x4) x5 (0 : Int32) hG83 F84 (by omega) (by omega) (by omega) (by omega) (by omega) (by omega) (by omega) (by omega) (by omega) (by omega) (by omega) (by omega)
    · refine to_an (pc := 81) rw_216_81 rfl (s_gR (pc := 82) rw_216_82 hG rfl (v := 109) rfl (to_i (pc := 85) rw_216_85 rfl (to_an (pc := 87) rw_216_87 rfl (s_gR (pc := 88) rw_216_88 hG rfl (v := 99) rfl (to_c (pc := 91) rw_216_91 (x := (30 : Int32)) rfl rfl (to_i (pc := 93) rw_216_93 rfl (s_mul (pc := 95) rw_216_95 (A := 30) (B := x4.toInt) rfl rfl (by omega) (fun v96 e97 => to_i (pc := 96) rw_216_96 rfl (s_add (pc := 98) rw_216_98 (A := v96.toInt) (B := x6.toInt) rfl rfl (by omega) (fun v98 e99 => s_ial (pc := 99) rw_216_99 hG rfl (n := 180) rfl rfl (A := v98.toInt) rfl (by omega) (by omega) (lo := 0) (hi := 29) rfl rfl (fun v100 w_101 _ _ => s_ias (pc := 100) rw_216_100 hG rfl (n := 30) rfl (A := x6.toInt) rfl (by omega) (by omega) (fun M103 W102 => ?_))))))))))))
      have hG104 := g_w hG W102 (A := v100.toInt) rfl (lo := 0) (hi := 29) rfl rfl (by omega) (by decide)
      have F105 := FR.w F0 W102 (show 109 = 77 ∧ (x6.toInt).toNat = 42 ∨ 109 = 99 ∨ 109 = 100 ∨ 109 = 109 by omega)
      refine s_inc (pc := 101) rw_216_101 (ls2 := fun v => [.ref 77, .int a, .long y2, .null, .int x4, .int x5, .int v]) rfl rfl (fun _ => rfl) (A := x6.toInt) (B := 1) rfl rfl (by omega) (fun v106 e107 => to_go (pc := 104) rw_216_104 ?_)
      have t_108 : (M103.2.1 100 (x4.toInt).toNat).toInt = (N.2.1 100 (x4.toInt).toNat).toInt := congrArg Int32.toInt (W_n W102 (by omega) rfl)
      have j_109 := (PS_f (fun a i z => W_n W102 (tg_358 a i _ z) rfl) g8)
      have t_110 : (M103.2.1 102 (a.toInt).toNat).toInt = (N.2.1 102 (a.toInt).toNat).toInt := congrArg Int32.toInt (W_n W102 (by omega) rfl)
      have t_111 : (M103.2.1 102 (a.toInt).toNat).toInt = (N.2.1 102 (a.toInt).toNat).toInt := congrArg Int32.toInt (W_n W102 (by omega) rfl)
      have t_112 : (M103.2.1 103 (a.toInt).toNat).toInt = (N.2.1 103 (a.toInt).toNat).toInt := congrArg Int32.toInt (W_n W102 (by omega) rfl)
      have t_113 : (M103.2.1 104 (a.toInt).toNat).toInt = (N.2.1 104 (a.toInt).toNat).toInt := congrArg Int32.toInt (W_n W102 (by omega) rfl)
      have c_114 : M103.2.1 77 42 = (N.2.1 77 42) := (W_n W102 (fun z => absurd z.1 (by decide)) rfl)
      have t_115 : (M103.2.1 77 42).toInt = (N.2.1 77 42).toInt := congrArg Int32.toInt c_114
      exact ih M103 y2 x4 x5 v106 hG104 F105 (by omega) (by omega) (by omega) (by omega) (by omega) (by omega) (by omega) j_109 (by omega) (by omega) (by omega) (by omega) (by omega) (by omega)
set_option maxRecDepth 4000 in
set_option maxHeartbeats 0 in
theorem U_216_2 {X : mm_X} {d : Nat} {M : mm_M} {Q : Option Value → mm_M → Prop} {a : Int32} (hX : g_X X) (hd : 2 ≤ d) (q1 : 0 ≤ a.toInt) (q2 : a.toInt ≤ 39) (q3 : 0 ≤ (M.2.1 102 (a.toInt).toNat).toInt) (q4 : (M.2.1 102 (a.toInt).toNat).toInt ≤ 5) (q5 : 0 ≤ (M.2.1 103 (a.toInt).toNat).toInt) (q6 : 0 ≤ (M.2.1 104 (a.toInt).toNat).toInt) (q7 : PS M) (q8 : (M.2.1 77 42).toInt ≤ 2999) (h : ∀ (M1 : mm_M), g_G M1 → FR md_pa M M1 → PS M1 → ((M1.2.1 77 42).toInt = (M.2.1 77 42).toInt + 1) → Q (none) M1) : ∀ nn9 : Nat, (∀ (N : mm_M) (y2 : Int64) (x4 : Int32) (u5 : Value) (u6 : Value), g_G N → FR md_pa M N → (0 ≤ x4.toInt) → (x4.toInt ≤ 12) → (PS N) → (0 ≤ (N.2.1 102 (a.toInt).toNat).toInt) → ((N.2.1 102 (a.toInt).toNat).toInt ≤ 5) → (0 ≤ (N.2.1 103 (a.toInt).toNat).toInt) → (0 ≤ (N.2.1 104 (a.toInt).toNat).toInt) → ((N.2.1 77 42).toInt = (M.2.1 77 42).toInt) → 12 - x4.toInt < (nn9 : Int) → mm_T X d 215 10 [.ref 77, .int a, .long y2, .null, .int x4, u5, u6] [] N Q) := by
  intro nn9
  induction nn9 with
  | zero =>
    intro N y2 x4 u5 u6 hG F0 g1 g2 g3 g4 g5 g6 g7 g8 hm
    exfalso; omega
  | succ nn9 ih =>
    intro N y2 x4 u5 u6 hG F0 g1 g2 g3 g4 g5 g6 g7 g8 hm
    have b_116 := g_b hG (a := 77) (i := 28) (lo := 0) (hi := 30) rfl rfl
    have s_117 := PS_e g3
    refine to_i (pc := 10) rw_216_10 rfl (to_an (pc := 12) rw_216_12 rfl ?_)
    have b_118 := g_b hG (a := 77) (i := 13) (lo := 0) (hi := 12) rfl rfl
    refine tt_gI (pc := 13) rw_216_13 (g_o hG rfl) (v := (N.2.1 77 13)) rfl (b_cge (pc := 16) rw_216_16 (A := x4.toInt) (B := (N.2.1 77 13).toInt) rfl rfl (fun h119 => ?_) (fun h119 => ?_))
    · refine to_an (pc := 54) rw_216_54 rfl (s_gR (pc := 55) rw_216_55 hG rfl (v := 102) rfl (to_in (pc := 58) rw_216_58 rfl (s_ial (pc := 59) rw_216_59 hG rfl (n := 40) rfl rfl (A := a.toInt) rfl (by omega) (by omega) (lo := -1) (hi := 99) rfl rfl (fun v120 w_121 _ _ => ?_))))
      have t_122 := congrArg Int32.toInt w_121
      refine to_is (pc := 60) rw_216_60 (ls2 := [.ref 77, .int a, .long y2, .null, .int v120, u5, u6]) rfl rfl (to_an (pc := 62) rw_216_62 rfl (s_gR (pc := 63) rw_216_63 hG rfl (v := 100) rfl (to_i (pc := 66) rw_216_66 rfl (s_ial (pc := 68) rw_216_68 hG rfl (n := 6) rfl rfl (A := v120.toInt) rfl (by omega) (by omega) (lo := 0) (hi := 30) rfl rfl (fun v123 w_124 _ _ => ?_)))))
      have t_125 := congrArg Int32.toInt w_124
      refine to_is (pc := 69) rw_216_69 (ls2 := [.ref 77, .int a, .long y2, .null, .int v120, .int v123, u6]) rfl rfl (to_c (pc := 71) rw_216_71 (x := (0 : Int32)) rfl rfl (to_is (pc := 72) rw_216_72 (ls2 := [.ref 77, .int a, .long y2, .null, .int v120, .int v123, .int (0 : Int32)]) rfl rfl ?_))
      have k_126 : (0 : Int32).toInt = 0 := rfl
      exact (U_216_1 (a := a) hX hd q1 q2 q3 q4 q5 q6 q7 q8 h ((30 - (0 : Int32).toInt).toNat + 1)) N y2 v120 v123 (0 : Int32) hG F0 (by omega) (by omega) (by omega) (by omega) (by omega) (by omega) (by omega) g3 (by omega) (by omega) (by omega) (by omega) (by omega) (by omega)
    · refine to_ln (pc := 19) rw_216_19 rfl rfl rfl (to_an (pc := 20) rw_216_20 rfl (s_gR (pc := 21) rw_216_21 hG rfl (v := 107) rfl (to_in (pc := 24) rw_216_24 rfl (s_ial (pc := 25) rw_216_25 hG rfl (n := 40) rfl rfl (A := a.toInt) rfl (by omega) (by omega) (lo := -2147483648) (hi := 2147483647) rfl rfl (fun v127 w_128 _ _ => to_i (pc := 26) rw_216_26 rfl (s_any (pc := 28) rw_216_28 (fun _ _ => rfl) (fun v129 => to_c (pc := 29) rw_216_29 (x := (1 : Int32)) rfl rfl (s_and (pc := 30) rw_216_30 (B := 1) rfl (by omega) (fun v130 e131 _ _ => to_c (pc := 31) rw_216_31 (x := (1 : Int32)) rfl rfl (b_cne (pc := 32) rw_216_32 (A := v130.toInt) (B := 1) rfl rfl (fun h132 => ?_) (fun h132 => ?_)))))))))))
      · refine s_cl (pc := 45) rw_216_45 rfl (fun l133 => s_anyL (pc := 46) rw_216_46 (fun _ _ => rfl) (fun l134 => to_lsn (pc := 47) rw_216_47 (ls2 := [.ref 77, .int a, .long l134, .null, .int x4, u5, u6]) rfl rfl (s_inc (pc := 48) rw_216_48 (ls2 := fun v => [.ref 77, .int a, .long l134, .null, .int v, u5, u6]) rfl rfl (fun _ => rfl) (A := x4.toInt) (B := 1) rfl rfl (by omega) (fun v135 e136 => to_go (pc := 51) rw_216_51 ?_))))
        exact ih N l134 v135 (u5) (u6) hG F0 (by omega) (by omega) g3 (by omega) (by omega) (by omega) (by omega) (by omega) (by omega)
      · refine to_an (pc := 35) rw_216_35 rfl (s_gR (pc := 36) rw_216_36 hG rfl (v := 95) rfl (to_i (pc := 39) rw_216_39 rfl (s_lal (pc := 41) rw_216_41 hG rfl (n := 12) rfl (A := x4.toInt) rfl (by omega) (by omega) (fun l137 => to_go (pc := 42) rw_216_42 (s_anyL (pc := 46) rw_216_46 (fun _ _ => rfl) (fun l138 => to_lsn (pc := 47) rw_216_47 (ls2 := [.ref 77, .int a, .long l138, .null, .int x4, u5, u6]) rfl rfl (s_inc (pc := 48) rw_216_48 (ls2 := fun v => [.ref 77, .int a, .long l138, .null, .int v, u5, u6]) rfl rfl (fun _ => rfl) (A := x4.toInt) (B := 1) rfl rfl (by omega) (fun v139 e140 => to_go (pc := 51) rw_216_51 ?_))))))))
        exact ih N l138 v139 (u5) (u6) hG F0 (by omega) (by omega) g3 (by omega) (by omega) (by omega) (by omega) (by omega) (by omega)
set_option maxRecDepth 4000 in
set_option maxHeartbeats 0 in
theorem E_216 {X : mm_X} {d : Nat} {M : mm_M} {Q : Option Value → mm_M → Prop} {a : Int32} (hX : g_X X) (hd : 2 ≤ d) (hG : g_G M) (q1 : 0 ≤ a.toInt) (q2 : a.toInt ≤ 39) (q3 : 0 ≤ (M.2.1 102 (a.toInt).toNat).toInt) (q4 : (M.2.1 102 (a.toInt).toNat).toInt ≤ 5) (q5 : 0 ≤ (M.2.1 103 (a.toInt).toNat).toInt) (q6 : 0 ≤ (M.2.1 104 (a.toInt).toNat).toInt) (q7 : PS M) (q8 : (M.2.1 77 42).toInt ≤ 2999) (h : ∀ (M1 : mm_M), g_G M1 → FR md_pa M M1 → PS M1 → ((M1.2.1 77 42).toInt = (M.2.1 77 42).toInt + 1) → Q (none) M1) : mm_T X d 215 0 [.ref 77, .int a, .null, .null, .null, .null, .null] [] M Q := by
  have F0 : FR md_pa M M := FR.rf
  have b_141 := g_b hG (a := 77) (i := 28) (lo := 0) (hi := 30) rfl rfl
  have s_142 := PS_e q7
  refine to_an (pc := 0) rw_216_0 rfl (s_gR (pc := 1) rw_216_1 hG rfl (v := 106) rfl (to_in (pc := 4) rw_216_4 rfl (s_lal (pc := 5) rw_216_5 hG rfl (n := 40) rfl (A := a.toInt) rfl (by omega) (by omega) (fun l143 => to_lsn (pc := 6) rw_216_6 (ls2 := [.ref 77, .int a, .long l143, .null, .null, .null, .null]) rfl rfl (to_c (pc := 7) rw_216_7 (x := (0 : Int32)) rfl rfl (to_is (pc := 8) rw_216_8 (ls2 := [.ref 77, .int a, .long l143, .null, .int (0 : Int32), .null, .null]) rfl rfl ?_))))))
  have k_144 : (0 : Int32).toInt = 0 := rfl
  exact (U_216_2 (a := a) hX hd q1 q2 q3 q4 q5 q6 q7 q8 h ((12 - (0 : Int32).toInt).toNat + 1)) M l143 (0 : Int32) (.null) (.null) hG F0 (by omega) (by omega) q7 (by omega) (by omega) (by omega) (by omega) (by omega) (by omega)
set_option maxRecDepth 4000 in
set_option maxHeartbeats 0 in
theorem U_218_0 {X : mm_X} {d : Nat} {M : mm_M} {Q : Option Value → mm_M → Prop} {A9 : x_A} {n9 : Int} (hX : g_X X) (hd : 3 ≤ d) (q1 : NJ M) (q2 : PS M) (q3 : AB M) (q4 : ST M) (q5 : (M.2.1 77 52).toInt ≤ 0) (q6 : (M.2.1 77 44).toInt = n9) (q7 : WKr M A9 n9 []) (h : ∀ (r : Int32) (M1 : mm_M), g_G M1 → FR md_do M M1 → PS M1 → (0 ≤ r.toInt) → (r.toInt ≤ 1) → (RUN A9 n9 (0, [], 0, 0) (r.toInt, (M1.2.1 77 43).toInt, (M1.2.1 77 42).toInt)) → Q (some (.int r)) M1) : ∀ nn9 : Nat, (∀ (N : mm_M) (x1 : Int32) (x2 : Int32), g_G N → FR md_do M N → (0 ≤ x1.toInt) → (x1.toInt ≤ 5) → (0 ≤ x2.toInt) → (x2.toInt ≤ 40) → (x2.toInt ≤ (N.2.1 77 44).toInt) → (DK N x2.toInt (x1.toInt).toNat) → (∀ i : Nat, i < (x1.toInt).toNat → 1 ≤ (N.2.1 111 i).toInt) → (AB N) → (PS N) → ((N.2.1 77 44).toInt = n9) → ((N.2.1 77 42).toInt ≤ (N.2.1 77 43).toInt) → (WKr N A9 n9 []) → (RNK A9 n9 N x2.toInt (x1.toInt).toNat) → (3000 - (N.2.1 77 43).toInt) * 1000 + LSm N (x1.toInt).toNat < (nn9 : Int) → mm_T X d 217 22 [.ref 77, .int x1, .int x2] [] N Q) := by
  intro nn9
  induction nn9 with
  | zero =>
    intro N x1 x2 hG F0 g1 g2 g3 g4 g5 g6 g7 g8 g9 g10 g11 g12 g13 hm
    have b_1 := g_b hG (a := 77) (i := 43) (lo := 0) (hi := 3000) rfl rfl
    have b_2 := g_b hG (a := 77) (i := 44) (lo := 0) (hi := 40) rfl rfl
    have s_3 := LSm_nn hG (x1.toInt).toNat
    exfalso; omega
  | succ nn9 ih =>
    intro N x1 x2 hG F0 g1 g2 g3 g4 g5 g6 g7 g8 g9 g10 g11 g12 g13 hm
    have b_4 := g_b hG (a := 77) (i := 43) (lo := 0) (hi := 3000) rfl rfl
    have b_5 := g_b hG (a := 77) (i := 44) (lo := 0) (hi := 40) rfl rfl
    have s_6 := LSm_nn hG (x1.toInt).toNat
    refine to_in (pc := 22) rw_218_22 rfl (b_ile (pc := 23) rw_218_23 (A := x1.toInt) rfl (fun h7 => ?_) (fun h7 => ?_))
    · refine to_in (pc := 86) rw_218_86 rfl (to_an (pc := 87) rw_218_87 rfl (tt_gI (pc := 88) rw_218_88 (g_o hG rfl) (v := (N.2.1 77 44)) rfl (b_cne (pc := 91) rw_218_91 (A := x2.toInt) (B := (N.2.1 77 44).toInt) rfl rfl (fun h8 => ?_) (fun h8 => ?_))))
      · refine to_an (pc := 96) rw_218_96 rfl (tt_gI (pc := 97) rw_218_97 (g_o hG rfl) (v := (N.2.1 77 43)) rfl (to_c (pc := 100) rw_218_100 (x := (3000 : Int32)) rfl rfl (b_cne (pc := 103) rw_218_103 (A := (N.2.1 77 43).toInt) (B := 3000) rfl rfl (fun h9 => ?_) (fun h9 => ?_))))
        · refine to_an (pc := 108) rw_218_108 rfl (to_dupr (pc := 109) rw_218_109 (tt_gI (pc := 110) rw_218_110 (g_o hG rfl) (v := (N.2.1 77 43)) rfl (to_c (pc := 113) rw_218_113 (x := (1 : Int32)) rfl rfl (s_add (pc := 114) rw_218_114 (A := (N.2.1 77 43).toInt) (B := 1) rfl rfl (by omega) (fun v10 e11 => s_pI (pc := 115) rw_218_115 hG rfl (fun M13 W12 => ?_))))))
          have hG14 := g_w hG W12 (A := v10.toInt) rfl (lo := 0) (hi := 3000) rfl rfl (by omega) (by decide)
          have F15 := FR.w F0 W12 (show 77 = 77 ∧ (43 = 42 ∨ 43 = 43) ∨ 94 ≤ 77 ∧ 77 ≤ 98 ∨ 77 = 99 ∨ 77 = 100 ∨ 77 = 109 ∨ 77 = 110 ∨ 77 = 111 by decide)
          refine to_an (pc := 118) rw_218_118 rfl (s_gR (pc := 119) rw_218_119 hG14 rfl (v := 101) rfl (to_in (pc := 122) rw_218_122 rfl (s_ial (pc := 123) rw_218_123 hG14 rfl (n := 40) rfl rfl (A := x2.toInt) rfl (by omega) (by omega) (lo := 0) (hi := 2) rfl rfl (fun v16 w_17 _ _ => ?_))))
          have c_18 : M13.2.1 77 44 = (N.2.1 77 44) := (W_n W12 (by decide) rfl)
          have t_19 : (M13.2.1 77 44).toInt = (N.2.1 77 44).toInt := congrArg Int32.toInt c_18
          have j_21 := (AB_f (fun a i z => W_n W12 (by /-r77,43-/ omega) rfl) g8)
          have s_20 := AB_u (A := x2.toInt) j_21 (by omega) (by omega) (by omega)
          have t_22 := congrArg Int32.toInt w_17
          have t_23 : (M13.2.1 101 (x2.toInt).toNat).toInt = (N.2.1 101 (x2.toInt).toNat).toInt := congrArg Int32.toInt (W_n W12 (by omega) rfl)
          have t_24 : (M13.2.1 102 (x2.toInt).toNat).toInt = (N.2.1 102 (x2.toInt).toNat).toInt := congrArg Int32.toInt (W_n W12 (by omega) rfl)
          have t_25 : (M13.2.1 103 (x2.toInt).toNat).toInt = (N.2.1 103 (x2.toInt).toNat).toInt := congrArg Int32.toInt (W_n W12 (by omega) rfl)
          have t_26 : (M13.2.1 104 (x2.toInt).toNat).toInt = (N.2.1 104 (x2.toInt).toNat).toInt := congrArg Int32.toInt (W_n W12 (by omega) rfl)
          refine b_ine (pc := 124) rw_218_124 (A := v16.toInt) rfl (fun h27 => ?_) (fun h27 => ?_)
          · refine to_an (pc := 132) rw_218_132 rfl (s_gR (pc := 133) rw_218_133 hG14 rfl (v := 101) rfl (to_in (pc := 136) rw_218_136 rfl (s_ialk (pc := 137) rw_218_137 hG14 rfl (n := 40) rfl rfl (A := x2.toInt) rfl (by omega) (by omega) (v := v16) w_17 (to_c (pc := 138) rw_218_138 (x := (1 : Int32)) rfl rfl (b_cne (pc := 139) rw_218_139 (A := v16.toInt) (B := 1) rfl rfl (fun h30 => ?_) (fun h30 => ?_))))))
            · refine to_an (pc := 147) rw_218_147 rfl (s_gR (pc := 148) rw_218_148 hG14 rfl (v := 101) rfl (to_in (pc := 151) rw_218_151 rfl (s_ialk (pc := 152) rw_218_152 hG14 rfl (n := 40) rfl rfl (A := x2.toInt) rfl (by omega) (by omega) (v := v16) w_17 (to_c (pc := 153) rw_218_153 (x := (2 : Int32)) rfl rfl (b_cge_t (pc := 154) rw_218_154 (A := v16.toInt) (B := 2) rfl rfl (by omega) (to_an (pc := 163) rw_218_163 rfl (s_gR (pc := 164) rw_218_164 hG14 rfl (v := 102) rfl (to_in (pc := 167) rw_218_167 rfl (s_ial (pc := 168) rw_218_168 hG14 rfl (n := 40) rfl rfl (A := x2.toInt) rfl (by omega) (by omega) (lo := -1) (hi := 99) rfl rfl (fun v33 w_34 _ _ => ?_))))))))))
              have t_35 := congrArg Int32.toInt w_34
              have s_36 := DK_le g6 (by omega) (by omega) (by have z : N.2.1 101 (x2.toInt).toNat = v16 := (((W_n W12 (by omega) rfl)).symm.trans w_17); rw [z]; omega) (Or.inl (by omega))
              refine b_ine (pc := 169) rw_218_169 (A := v33.toInt) rfl (fun h37 => ?_) (fun h37 => ?_)
              · refine to_an (pc := 182) rw_218_182 rfl (s_gR (pc := 183) rw_218_183 hG14 rfl (v := 110) rfl (to_in (pc := 186) rw_218_186 rfl (to_in (pc := 187) rw_218_187 rfl (s_ias (pc := 188) rw_218_188 hG14 rfl (n := 5) rfl (A := x1.toInt) rfl (by omega) (by omega) (fun M39 W38 => ?_)))))
                have hG40 := g_w hG14 W38 (A := x2.toInt) rfl (lo := 0) (hi := 39) rfl rfl (by omega) (by decide)
                have F41 := FR.w F15 W38 (show 110 = 77 ∧ ((x1.toInt).toNat = 42 ∨ (x1.toInt).toNat = 43) ∨ 94 ≤ 110 ∧ 110 ≤ 98 ∨ 110 = 99 ∨ 110 = 100 ∨ 110 = 109 ∨ 110 = 110 ∨ 110 = 111 by omega)
                refine to_an (pc := 189) rw_218_189 rfl (s_gR (pc := 190) rw_218_190 hG40 rfl (v := 111) rfl (to_in (pc := 193) rw_218_193 rfl (to_an (pc := 194) rw_218_194 rfl (s_gR (pc := 195) rw_218_195 hG40 rfl (v := 102) rfl (to_in (pc := 198) rw_218_198 rfl (s_ialk (pc := 199) rw_218_199 hG40 rfl (n := 40) rfl rfl (A := x2.toInt) rfl (by omega) (by omega) (v := v33) (W_n W38 (by omega) w_34) (s_ias (pc := 200) rw_218_200 hG40 rfl (n := 5) rfl (A := x1.toInt) rfl (by omega) (by omega) (fun M45 W44 => ?_))))))))
                have hG46 := g_w hG40 W44 (A := v33.toInt) rfl (lo := 0) (hi := 99) rfl rfl (by omega) (by decide)
                have F47 := FR.w F41 W44 (show 111 = 77 ∧ ((x1.toInt).toNat = 42 ∨ (x1.toInt).toNat = 43) ∨ 94 ≤ 111 ∧ 111 ≤ 98 ∨ 111 = 99 ∨ 111 = 100 ∨ 111 = 109 ∨ 111 = 110 ∨ 111 = 111 by omega)
                refine s_inc (pc := 201) rw_218_201 (ls2 := fun v => [.ref 77, .int v, .int x2]) rfl rfl (fun _ => rfl) (A := x1.toInt) (B := 1) rfl rfl (by omega) (fun v48 e49 => s_inc (pc := 204) rw_218_204 (ls2 := fun v => [.ref 77, .int v48, .int v]) rfl rfl (fun _ => rfl) (A := x2.toInt) (B := 1) rfl rfl (by omega) (fun v50 e51 => to_go (pc := 207) rw_218_207 ?_))
                have c_52 : M45.2.1 77 44 = (N.2.1 77 44) := (W_n W44 (fun z => absurd z.1 (by decide)) (W_n W38 (fun z => absurd z.1 (by decide)) c_18))
                have t_53 : (M45.2.1 77 44).toInt = (N.2.1 77 44).toInt := congrArg Int32.toInt c_52
                have s_54 : LSm M45 (v48.toInt).toNat = LSm M45 ((x1.toInt).toNat + 1) := by rw [show (v48.toInt).toNat = (x1.toInt).toNat + 1 by omega]
                have s_55 := LSm_s (M := M45) (x1.toInt).toNat
                have s_56 : LSm M45 (x1.toInt).toNat = LSm N (x1.toInt).toNat := LSm_f _ (fun i z => (W_n W44 (by omega) (W_n W38 (by omega) (W_n W12 (by omega) rfl))))
                have s_57 : (M45.2.1 111 (x1.toInt).toNat).toInt = v33.toInt := by rw [show (x1.toInt).toNat = (x1.toInt).toNat by omega]; exact congrArg Int32.toInt (W_e W44)
                have j_58 := (AB_f (fun a i z => W_n W44 (by /-r111-/ omega) rfl) (AB_f (fun a i z => W_n W38 (by /-r110-/ omega) rfl) j_21))
                have j_59 := (PS_f (fun a i z => W_n W44 (tg_379 a i _ z) rfl) (PS_f (fun a i z => W_n W38 (tg_380 a i _ z) rfl) (PS_f (fun a i z => W_n W12 (tg_381 a i z) rfl) g9)))
                have c_60 : M45.2.1 77 42 = (N.2.1 77 42) := (W_n W44 (fun z => absurd z.1 (by decide)) (W_n W38 (fun z => absurd z.1 (by decide)) (W_n W12 (by decide) rfl)))
                have t_61 : (M45.2.1 77 42).toInt = (N.2.1 77 42).toInt := congrArg Int32.toInt c_60
                have c_62 : M45.2.1 77 43 = v10 := (W_n W44 (fun z => absurd z.1 (by decide)) (W_n W38 (fun z => absurd z.1 (by decide)) (W_e W12)))
                have t_63 : (M45.2.1 77 43).toInt = v10.toInt := congrArg Int32.toInt c_62
                have j_64 := (WKr_f (fun a i z => W_n W44 (tg_484 a i _ z) rfl) (WKr_f (fun a i z => W_n W38 (tg_485 a i _ z) rfl) (WKr_f (fun a i z => W_n W12 (tg_486 a i z) rfl) g12)))
                exact ih M45 v48 v50 hG46 F47 (by omega) (by omega) (by omega) (by omega) (by omega) (by rw [show (v48.toInt).toNat = (x1.toInt).toNat + 1 by omega, show v50.toInt = x2.toInt + 1 by omega]; exact DK_push g6 (by omega) (by omega) (by have z : N.2.1 101 (x2.toInt).toNat = v16 := (((W_n W12 (by omega) rfl)).symm.trans w_17); rw [z]; omega) (Or.inl (by omega)) (fun r i z => (W_n W44 (by omega) (W_n W38 (by omega) (W_n W12 (by omega) rfl)))) (by rw [(W_n W44 (by omega) (W_e W38))] <;> omega)) (fun i z => by
                    by_cases ei : i = (x1.toInt).toNat
                    · rw [ei]; omega
                    · rw [(W_n W44 (by omega) (W_n W38 (by omega) (W_n W12 (by omega) rfl)))]; exact g7 i (by omega)) j_58 j_59 (by omega) (by omega) j_64 (RNK_a1 g13 g12 (Or.inl (by omega)) (by omega) (by omega) (by omega) (by rw [(show N.2.1 101 (x2.toInt).toNat = v16 from (((W_n W12 (by omega) rfl)).symm.trans w_17))]; omega) (by rw [(show N.2.1 102 (x2.toInt).toNat = v33 from (((W_n W12 (by omega) rfl)).symm.trans w_34))]; omega) (fun i hi => ⟨(W_n W44 (by omega) (W_n W38 (by omega) (W_n W12 (by omega) rfl))), (W_n W44 (by omega) (W_n W38 (by omega) (W_n W12 (by omega) rfl)))⟩) (by rw [show (x1.toInt).toNat = (x1.toInt).toNat by omega, show M45.2.1 110 (x1.toInt).toNat = x2 from (W_n W44 (by omega) (W_e W38))] <;> omega) (by rw [show (x1.toInt).toNat = (x1.toInt).toNat by omega, show M45.2.1 111 (x1.toInt).toNat = v33 from (W_e W44), (show N.2.1 102 (x2.toInt).toNat = v33 from (((W_n W12 (by omega) rfl)).symm.trans w_34))]) (by omega) (by omega) (by omega) (by omega)) (by omega)
              · refine to_an (pc := 172) rw_218_172 rfl (s_gR (pc := 173) rw_218_173 hG14 rfl (v := 105) rfl (to_in (pc := 176) rw_218_176 rfl (s_ial (pc := 177) rw_218_177 hG14 rfl (n := 40) rfl rfl (A := x2.toInt) rfl (by omega) (by omega) (lo := 0) (hi := 40) rfl rfl (fun v65 w_66 _ _ => ?_))))
                have t_67 := congrArg Int32.toInt w_66
                have s_68 := DK_skip g6 (by omega) (by omega) (by have z : N.2.1 101 (x2.toInt).toNat = v16 := (((W_n W12 (by omega) rfl)).symm.trans w_17); rw [z]; omega) (Or.inl (by omega))
                have s_69 := s_68.2
                rw [(((W_n W12 (by omega) rfl)).symm.trans w_66)] at s_69
                refine to_isn (pc := 178) rw_218_178 (ls2 := [.ref 77, .int x1, .int v65]) rfl rfl (to_go (pc := 179) rw_218_179 ?_)
                have s_71 : LSm M13 (x1.toInt).toNat = LSm N (x1.toInt).toNat := LSm_f _ (fun i z => (W_n W12 (by omega) rfl))
                have j_72 := (PS_f (fun a i z => W_n W12 (tg_381 a i z) rfl) g9)
                have c_73 : M13.2.1 77 42 = (N.2.1 77 42) := (W_n W12 (by decide) rfl)
                have t_74 : (M13.2.1 77 42).toInt = (N.2.1 77 42).toInt := congrArg Int32.toInt c_73
                have c_75 : M13.2.1 77 43 = v10 := (W_e W12)
                have t_76 : (M13.2.1 77 43).toInt = v10.toInt := congrArg Int32.toInt c_75
                have j_77 := (WKr_f (fun a i z => W_n W12 (tg_486 a i z) rfl) g12)
                exact ih M13 x1 v65 hG14 F15 (by omega) (by omega) (by omega) (by omega) (by omega) (DK_f (fun r i z => (W_n W12 (by omega) rfl)) (by have z := (s_68).1; rw [(((W_n W12 (by omega) rfl)).symm.trans w_66)] at z; exact z)) (fun i z => by rw [(W_n W12 (by omega) rfl)]; exact g7 i z) j_21 j_72 (by omega) (by omega) j_77 (RNK_a0 g13 g12 (Or.inl (by omega)) (by omega) (by omega) (by omega) (by rw [(show N.2.1 101 (x2.toInt).toNat = v16 from (((W_n W12 (by omega) rfl)).symm.trans w_17))]; omega) (by rw [(show N.2.1 102 (x2.toInt).toNat = v33 from (((W_n W12 (by omega) rfl)).symm.trans w_34))]; omega) (fun r i z => (W_n W12 (by omega) rfl)) (by omega) (by omega) (by rw [show N.2.1 105 (x2.toInt).toNat = v65 from (((W_n W12 (by omega) rfl)).symm.trans w_66)]) (by omega)) (by omega)
            · refine to_an (pc := 142) rw_218_142 rfl (to_in (pc := 143) rw_218_143 rfl (s_v (pc := 144) rw_218_144 (dp0 hd (by decide)) (ls0 := [.ref 77, .int x2, .null, .null]) rfl (Nat.le_of_ble_eq_true rfl) (Nat.le_of_ble_eq_true rfl) rfl (to_rc rfl rfl rfl (g_o hG14 rfl)) rfl ?_))
              have s_78 := AB_u (A := x2.toInt) j_21 (by omega) (by omega) (by omega)
              have t_79 : (M13.2.1 101 (x2.toInt).toNat).toInt = (N.2.1 101 (x2.toInt).toNat).toInt := congrArg Int32.toInt (W_n W12 (by omega) rfl)
              have t_80 : (M13.2.1 102 (x2.toInt).toNat).toInt = (N.2.1 102 (x2.toInt).toNat).toInt := congrArg Int32.toInt (W_n W12 (by omega) rfl)
              have t_81 : (M13.2.1 103 (x2.toInt).toNat).toInt = (N.2.1 103 (x2.toInt).toNat).toInt := congrArg Int32.toInt (W_n W12 (by omega) rfl)
              have t_82 : (M13.2.1 104 (x2.toInt).toNat).toInt = (N.2.1 104 (x2.toInt).toNat).toInt := congrArg Int32.toInt (W_n W12 (by omega) rfl)
              have s_83 := g_b hG14 (a := 103) (i := (x2.toInt).toNat) (lo := -1) (hi := 5) rfl rfl
              have j_84 := (PS_f (fun a i z => W_n W12 (tg_381 a i z) rfl) g9)
              refine C_217 hX (dp1 hd (by decide)) hG14 (by omega) (by omega) rfl rfl (by omega) (by omega) (by omega) (by omega) (by omega) j_84 (a := x2) (o := (M13.2.1 102 (x2.toInt).toNat)) (t := (M13.2.1 103 (x2.toInt).toNat)) (fun M88 hG86 F85 p_87 => ?_)
              have F89 := FR.c F15 F85 tg_373
              have c_90 : M88.2.1 77 42 = (N.2.1 77 42) := (F_n F85 (show ¬ (77 = 99 ∨ 77 = 100) by decide) (W_n W12 (by decide) rfl))
              have t_91 : (M88.2.1 77 42).toInt = (N.2.1 77 42).toInt := congrArg Int32.toInt c_90
              have c_92 : M88.2.1 77 43 = v10 := (F_n F85 (show ¬ (77 = 99 ∨ 77 = 100) by decide) (W_e W12))
              have t_93 : (M88.2.1 77 43).toInt = v10.toInt := congrArg Int32.toInt c_92
              refine to_an (pc := 147) rw_218_147 rfl (s_gR (pc := 148) rw_218_148 hG86 rfl (v := 101) rfl (to_in (pc := 151) rw_218_151 rfl (s_ialk (pc := 152) rw_218_152 hG86 rfl (n := 40) rfl rfl (A := x2.toInt) rfl (by omega) (by omega) (v := v16) (F_n F85 (show ¬ (101 = 99 ∨ 101 = 100) by decide) w_17) (to_c (pc := 153) rw_218_153 (x := (2 : Int32)) rfl rfl (b_cge_f (pc := 154) rw_218_154 (A := v16.toInt) (B := 2) rfl rfl (by omega) (s_inc (pc := 157) rw_218_157 (ls2 := fun v => [.ref 77, .int x1, .int v]) rfl rfl (fun _ => rfl) (A := x2.toInt) (B := 1) rfl rfl (by omega) (fun v96 e97 => to_go (pc := 160) rw_218_160 ?_)))))))
              have c_98 : M88.2.1 77 44 = (N.2.1 77 44) := (F_n F85 (show ¬ (77 = 99 ∨ 77 = 100) by decide) c_18)
              have t_99 : (M88.2.1 77 44).toInt = (N.2.1 77 44).toInt := congrArg Int32.toInt c_98
              have s_100 : LSm M88 (x1.toInt).toNat = LSm N (x1.toInt).toNat := LSm_f _ (fun i z => (F_n F85 (show ¬ (111 = 99 ∨ 111 = 100) by decide) (W_n W12 (by omega) rfl)))
              have j_101 := (AB_f (tg_359 F85) j_21)
              have j_102 := (WKr_f (tg_481 F85) (WKr_f (fun a i z => W_n W12 (tg_486 a i z) rfl) g12))
              exact ih M88 x1 v96 hG86 F89 (by omega) (by omega) (by omega) (by omega) (by omega) (by rw [show v96.toInt = x2.toInt + 1 by omega]; exact (DK_f (fun r i z => (F_n F85 (show ¬ (r = 99 ∨ r = 100) by omega) (W_n W12 (by omega) rfl))) (DK_next g6 (Or.inl (by omega))))) (fun i z => by rw [(F_n F85 (show ¬ (111 = 99 ∨ 111 = 100) by decide) (W_n W12 (by omega) rfl))]; exact g7 i z) j_101 p_87 (by omega) (by omega) j_102 (RNK_1 (dp := 0) g13 g12 (Or.inl (by omega)) (by omega) (by omega) (by omega) (Or.inr ⟨by rw [(show N.2.1 101 (x2.toInt).toNat = v16 from (((W_n W12 (by omega) rfl)).symm.trans w_17))]; omega, rfl⟩) (fun r i z => (F_n F85 (show ¬ (r = 99 ∨ r = 100) by omega) (W_n W12 (by omega) rfl))) (by omega) (by omega) (by omega) (by omega)) (by omega)
          · refine to_an (pc := 127) rw_218_127 rfl (to_in (pc := 128) rw_218_128 rfl (s_v (pc := 129) rw_218_129 (dp0 hd (by decide)) (ls0 := [.ref 77, .int x2, .null, .null, .null, .null, .null]) rfl (Nat.le_of_ble_eq_true rfl) (Nat.le_of_ble_eq_true rfl) rfl (to_rc rfl rfl rfl (g_o hG14 rfl)) rfl ?_))
            have c_103 : M13.2.1 77 42 = (N.2.1 77 42) := (W_n W12 (by decide) rfl)
            have t_104 : (M13.2.1 77 42).toInt = (N.2.1 77 42).toInt := congrArg Int32.toInt c_103
            have s_105 := AB_u (A := x2.toInt) j_21 (by omega) (by omega) (by omega)
            have t_106 : (M13.2.1 101 (x2.toInt).toNat).toInt = (N.2.1 101 (x2.toInt).toNat).toInt := congrArg Int32.toInt (W_n W12 (by omega) rfl)
            have t_107 : (M13.2.1 102 (x2.toInt).toNat).toInt = (N.2.1 102 (x2.toInt).toNat).toInt := congrArg Int32.toInt (W_n W12 (by omega) rfl)
            have t_108 : (M13.2.1 103 (x2.toInt).toNat).toInt = (N.2.1 103 (x2.toInt).toNat).toInt := congrArg Int32.toInt (W_n W12 (by omega) rfl)
            have t_109 : (M13.2.1 104 (x2.toInt).toNat).toInt = (N.2.1 104 (x2.toInt).toNat).toInt := congrArg Int32.toInt (W_n W12 (by omega) rfl)
            have s_110 := g_b hG14 (a := 103) (i := (x2.toInt).toNat) (lo := -1) (hi := 5) rfl rfl
            have t_111 : (M13.2.1 102 (x2.toInt).toNat).toInt = (N.2.1 102 (x2.toInt).toNat).toInt := congrArg Int32.toInt (W_n W12 (by omega) rfl)
            have t_112 : (M13.2.1 102 (x2.toInt).toNat).toInt = (N.2.1 102 (x2.toInt).toNat).toInt := congrArg Int32.toInt (W_n W12 (by omega) rfl)
            have t_113 : (M13.2.1 103 (x2.toInt).toNat).toInt = (N.2.1 103 (x2.toInt).toNat).toInt := congrArg Int32.toInt (W_n W12 (by omega) rfl)
            have t_114 : (M13.2.1 104 (x2.toInt).toNat).toInt = (N.2.1 104 (x2.toInt).toNat).toInt := congrArg Int32.toInt (W_n W12 (by omega) rfl)
            have j_115 := (PS_f (fun a i z => W_n W12 (tg_381 a i z) rfl) g9)
            refine E_216 hX (dp1 hd (by decide)) hG14 (by omega) (by omega) (by omega) (by omega) (by omega) (by omega) j_115 (by omega) (a := x2) (fun M120 hG117 F116 p_118 p_119 => ?_)
            have F121 := FR.c F15 F116 tg_374
            have c_122 : M120.2.1 77 43 = v10 := (F_n F116 (show ¬ (77 = 77 ∧ 43 = 42 ∨ 77 = 99 ∨ 77 = 100 ∨ 77 = 109) by decide) (W_e W12))
            have t_123 : (M120.2.1 77 43).toInt = v10.toInt := congrArg Int32.toInt c_122
            refine to_an (pc := 132) rw_218_132 rfl (s_gR (pc := 133) rw_218_133 hG117 rfl (v := 101) rfl (to_in (pc := 136) rw_218_136 rfl (s_ialk (pc := 137) rw_218_137 hG117 rfl (n := 40) rfl rfl (A := x2.toInt) rfl (by omega) (by omega) (v := v16) (F_n F116 (show ¬ (101 = 77 ∧ (x2.toInt).toNat = 42 ∨ 101 = 99 ∨ 101 = 100 ∨ 101 = 109) by omega) w_17) (to_c (pc := 138) rw_218_138 (x := (1 : Int32)) rfl rfl (b_cne_t (pc := 139) rw_218_139 (A := v16.toInt) (B := 1) rfl rfl (by omega) (to_an (pc := 147) rw_218_147 rfl (s_gR (pc := 148) rw_218_148 hG117 rfl (v := 101) rfl (to_in (pc := 151) rw_218_151 rfl (s_ialk (pc := 152) rw_218_152 hG117 rfl (n := 40) rfl rfl (A := x2.toInt) rfl (by omega) (by omega) (v := v16) (F_n F116 (show ¬ (101 = 77 ∧ (x2.toInt).toNat = 42 ∨ 101 = 99 ∨ 101 = 100 ∨ 101 = 109) by omega) w_17) (to_c (pc := 153) rw_218_153 (x := (2 : Int32)) rfl rfl (b_cge_f (pc := 154) rw_218_154 (A := v16.toInt) (B := 2) rfl rfl (by omega) ?_)))))))))))
            refine s_inc (pc := 157) rw_218_157 (ls2 := fun v => [.ref 77, .int x1, .int v]) rfl rfl (fun _ => rfl) (A := x2.toInt) (B := 1) rfl rfl (by omega) (fun v128 e129 => to_go (pc := 160) rw_218_160 ?_)
            have c_130 : M120.2.1 77 44 = (N.2.1 77 44) := (F_n F116 (show ¬ (77 = 77 ∧ 44 = 42 ∨ 77 = 99 ∨ 77 = 100 ∨ 77 = 109) by decide) c_18)
            have t_131 : (M120.2.1 77 44).toInt = (N.2.1 77 44).toInt := congrArg Int32.toInt c_130
            have s_132 : LSm M120 (x1.toInt).toNat = LSm N (x1.toInt).toNat := LSm_f _ (fun i z => (F_n F116 (show ¬ (111 = 77 ∧ i = 42 ∨ 111 = 99 ∨ 111 = 100 ∨ 111 = 109) by omega) (W_n W12 (by omega) rfl)))
            have j_133 := (AB_f (tg_360 F116) j_21)
            have j_134 := (WKr_f (tg_482 F116) (WKr_f (fun a i z => W_n W12 (tg_486 a i z) rfl) g12))
            exact ih M120 x1 v128 hG117 F121 (by omega) (by omega) (by omega) (by omega) (by omega) (by rw [show v128.toInt = x2.toInt + 1 by omega]; exact (DK_f (fun r i z => (F_n F116 (show ¬ (r = 77 ∧ i = 42 ∨ r = 99 ∨ r = 100 ∨ r = 109) by omega) (W_n W12 (by omega) rfl))) (DK_next g6 (Or.inl (by omega))))) (fun i z => by rw [(F_n F116 (show ¬ (111 = 77 ∧ i = 42 ∨ 111 = 99 ∨ 111 = 100 ∨ 111 = 109) by omega) (W_n W12 (by omega) rfl))]; exact g7 i z) j_133 p_118 (by omega) (by omega) j_134 (RNK_1 (dp := 1) g13 g12 (Or.inl (by omega)) (by omega) (by omega) (by omega) (Or.inl ⟨by rw [(show N.2.1 101 (x2.toInt).toNat = v16 from (((W_n W12 (by omega) rfl)).symm.trans w_17))]; omega, rfl⟩) (fun r i z => (F_n F116 (show ¬ (r = 77 ∧ i = 42 ∨ r = 99 ∨ r = 100 ∨ r = 109) by omega) (W_n W12 (by omega) rfl))) (by omega) (by omega) (by omega) (by omega)) (by omega)
        · refine to_c (pc := 106) rw_218_106 (x := (1 : Int32)) rfl rfl (to_r0 (pc := 107) rw_218_107 ?_)
          have k_135 : (1 : Int32).toInt = 1 := rfl
          exact h (1 : Int32) N hG F0 g9 (by decide) (by decide) (RNK_e1 g13 g12 (Or.inl (by omega)) (by omega) (by omega) (by omega))
      · refine to_c (pc := 94) rw_218_94 (x := (0 : Int32)) rfl rfl (to_r0 (pc := 95) rw_218_95 ?_)
        have k_136 : (0 : Int32).toInt = 0 := rfl
        exact h (0 : Int32) N hG F0 g9 (by decide) (by decide) (RNK_e0 g13 g12 (Or.inl (by omega)) (by omega) (by omega))
    · refine to_in (pc := 26) rw_218_26 rfl (to_an (pc := 27) rw_218_27 rfl (s_gR (pc := 28) rw_218_28 hG rfl (v := 105) rfl (to_an (pc := 31) rw_218_31 rfl (s_gR (pc := 32) rw_218_32 hG rfl (v := 110) rfl (to_in (pc := 35) rw_218_35 rfl (to_c (pc := 36) rw_218_36 (x := (1 : Int32)) rfl rfl (s_sub (pc := 37) rw_218_37 (A := x1.toInt) (B := 1) rfl rfl (by omega) (fun v137 e138 => s_ial (pc := 38) rw_218_38 hG rfl (n := 5) rfl rfl (A := v137.toInt) rfl (by omega) (by omega) (lo := 0) (hi := 39) rfl rfl (fun v139 w_140 _ _ => ?_)))))))))
      have s_141 : DK N x2.toInt ((v137.toInt).toNat + 1) := by rw [show (v137.toInt).toNat + 1 = (x1.toInt).toNat by omega]; exact g6
      have s_142 := DK_t s_141
      rw [w_140] at s_142
      refine s_ial (pc := 39) rw_218_39 hG rfl (n := 40) rfl rfl (A := v139.toInt) rfl (by omega) (by omega) (lo := 0) (hi := 40) rfl rfl (fun v143 w_144 _ _ => ?_)
      rw [w_144] at s_142
      refine b_cne (pc := 40) rw_218_40 (A := x2.toInt) (B := v143.toInt) rfl rfl (fun h145 => ?_) (fun h145 => ?_)
      · refine to_in (pc := 86) rw_218_86 rfl (to_an (pc := 87) rw_218_87 rfl (tt_gI (pc := 88) rw_218_88 (g_o hG rfl) (v := (N.2.1 77 44)) rfl (b_cne (pc := 91) rw_218_91 (A := x2.toInt) (B := (N.2.1 77 44).toInt) rfl rfl (fun h146 => ?_) (fun h146 => ?_))))
        · refine to_an (pc := 96) rw_218_96 rfl (tt_gI (pc := 97) rw_218_97 (g_o hG rfl) (v := (N.2.1 77 43)) rfl (to_c (pc := 100) rw_218_100 (x := (3000 : Int32)) rfl rfl (b_cne (pc := 103) rw_218_103 (A := (N.2.1 77 43).toInt) (B := 3000) rfl rfl (fun h147 => ?_) (fun h147 => ?_))))
          · refine to_an (pc := 108) rw_218_108 rfl (to_dupr (pc := 109) rw_218_109 (tt_gI (pc := 110) rw_218_110 (g_o hG rfl) (v := (N.2.1 77 43)) rfl (to_c (pc := 113) rw_218_113 (x := (1 : Int32)) rfl rfl (s_add (pc := 114) rw_218_114 (A := (N.2.1 77 43).toInt) (B := 1) rfl rfl (by omega) (fun v148 e149 => s_pI (pc := 115) rw_218_115 hG rfl (fun M151 W150 => ?_))))))
            have hG152 := g_w hG W150 (A := v148.toInt) rfl (lo := 0) (hi := 3000) rfl rfl (by omega) (by decide)
            have F153 := FR.w F0 W150 (show 77 = 77 ∧ (43 = 42 ∨ 43 = 43) ∨ 94 ≤ 77 ∧ 77 ≤ 98 ∨ 77 = 99 ∨ 77 = 100 ∨ 77 = 109 ∨ 77 = 110 ∨ 77 = 111 by decide)
            refine to_an (pc := 118) rw_218_118 rfl (s_gR (pc := 119) rw_218_119 hG152 rfl (v := 101) rfl (to_in (pc := 122) rw_218_122 rfl (s_ial (pc := 123) rw_218_123 hG152 rfl (n := 40) rfl rfl (A := x2.toInt) rfl (by omega) (by omega) (lo := 0) (hi := 2) rfl rfl (fun v154 w_155 _ _ => ?_))))
            have c_156 : M151.2.1 77 44 = (N.2.1 77 44) := (W_n W150 (by decide) rfl)
            have t_157 : (M151.2.1 77 44).toInt = (N.2.1 77 44).toInt := congrArg Int32.toInt c_156
            have j_159 := (AB_f (fun a i z => W_n W150 (by /-r77,43-/ omega) rfl) g8)
            have s_158 := AB_u (A := x2.toInt) j_159 (by omega) (by omega) (by omega)
            have t_160 := congrArg Int32.toInt w_155
            have t_161 : (M151.2.1 101 (x2.toInt).toNat).toInt = (N.2.1 101 (x2.toInt).toNat).toInt := congrArg Int32.toInt (W_n W150 (by omega) rfl)
            have t_162 : (M151.2.1 102 (x2.toInt).toNat).toInt = (N.2.1 102 (x2.toInt).toNat).toInt := congrArg Int32.toInt (W_n W150 (by omega) rfl)
            have t_163 : (M151.2.1 103 (x2.toInt).toNat).toInt = (N.2.1 103 (x2.toInt).toNat).toInt := congrArg Int32.toInt (W_n W150 (by omega) rfl)
            have t_164 : (M151.2.1 104 (x2.toInt).toNat).toInt = (N.2.1 104 (x2.toInt).toNat).toInt := congrArg Int32.toInt (W_n W150 (by omega) rfl)
            refine b_ine (pc := 124) rw_218_124 (A := v154.toInt) rfl (fun h165 => ?_) (fun h165 => ?_)
            · refine to_an (pc := 132) rw_218_132 rfl (s_gR (pc := 133) rw_218_133 hG152 rfl (v := 101) rfl (to_in (pc := 136) rw_218_136 rfl (s_ialk (pc := 137) rw_218_137 hG152 rfl (n := 40) rfl rfl (A := x2.toInt) rfl (by omega) (by omega) (v := v154) w_155 (to_c (pc := 138) rw_218_138 (x := (1 : Int32)) rfl rfl (b_cne (pc := 139) rw_218_139 (A := v154.toInt) (B := 1) rfl rfl (fun h168 => ?_) (fun h168 => ?_))))))
              · refine to_an (pc := 147) rw_218_147 rfl (s_gR (pc := 148) rw_218_148 hG152 rfl (v := 101) rfl (to_in (pc := 151) rw_218_151 rfl (s_ialk (pc := 152) rw_218_152 hG152 rfl (n := 40) rfl rfl (A := x2.toInt) rfl (by omega) (by omega) (v := v154) w_155 (to_c (pc := 153) rw_218_153 (x := (2 : Int32)) rfl rfl (b_cge_t (pc := 154) rw_218_154 (A := v154.toInt) (B := 2) rfl rfl (by omega) (to_an (pc := 163) rw_218_163 rfl (s_gR (pc := 164) rw_218_164 hG152 rfl (v := 102) rfl (to_in (pc := 167) rw_218_167 rfl (s_ial (pc := 168) rw_218_168 hG152 rfl (n := 40) rfl rfl (A := x2.toInt) rfl (by omega) (by omega) (lo := -1) (hi := 99) rfl rfl (fun v171 w_172 _ _ => ?_))))))))))
                have t_173 := congrArg Int32.toInt w_172
                have s_174 := DK_le g6 (by omega) (by omega) (by have z : N.2.1 101 (x2.toInt).toNat = v154 := (((W_n W150 (by omega) rfl)).symm.trans w_155); rw [z]; omega) (Or.inr (by rw [show (x1.toInt).toNat - 1 = (v137.toInt).toNat by omega, w_140, w_144]; omega))
                refine b_ine (pc := 169) rw_218_169 (A := v171.toInt) rfl (fun h175 => ?_) (fun h175 => ?_)
                · refine to_an (pc := 182) rw_218_182 rfl (s_gR (pc := 183) rw_218_183 hG152 rfl (v := 110) rfl (to_in (pc := 186) rw_218_186 rfl (to_in (pc := 187) rw_218_187 rfl (s_ias (pc := 188) rw_218_188 hG152 rfl (n := 5) rfl (A := x1.toInt) rfl (by omega) (by omega) (fun M177 W176 => ?_)))))
                  have hG178 := g_w hG152 W176 (A := x2.toInt) rfl (lo := 0) (hi := 39) rfl rfl (by omega) (by decide)
                  have F179 := FR.w F153 W176 (show 110 = 77 ∧ ((x1.toInt).toNat = 42 ∨ (x1.toInt).toNat = 43) ∨ 94 ≤ 110 ∧ 110 ≤ 98 ∨ 110 = 99 ∨ 110 = 100 ∨ 110 = 109 ∨ 110 = 110 ∨ 110 = 111 by omega)
                  refine to_an (pc := 189) rw_218_189 rfl (s_gR (pc := 190) rw_218_190 hG178 rfl (v := 111) rfl (to_in (pc := 193) rw_218_193 rfl (to_an (pc := 194) rw_218_194 rfl (s_gR (pc := 195) rw_218_195 hG178 rfl (v := 102) rfl (to_in (pc := 198) rw_218_198 rfl (s_ialk (pc := 199) rw_218_199 hG178 rfl (n := 40) rfl rfl (A := x2.toInt) rfl (by omega) (by omega) (v := v171) (W_n W176 (by omega) w_172) (s_ias (pc := 200) rw_218_200 hG178 rfl (n := 5) rfl (A := x1.toInt) rfl (by omega) (by omega) (fun M183 W182 => ?_))))))))
                  have hG184 := g_w hG178 W182 (A := v171.toInt) rfl (lo := 0) (hi := 99) rfl rfl (by omega) (by decide)
                  have F185 := FR.w F179 W182 (show 111 = 77 ∧ ((x1.toInt).toNat = 42 ∨ (x1.toInt).toNat = 43) ∨ 94 ≤ 111 ∧ 111 ≤ 98 ∨ 111 = 99 ∨ 111 = 100 ∨ 111 = 109 ∨ 111 = 110 ∨ 111 = 111 by omega)
                  refine s_inc (pc := 201) rw_218_201 (ls2 := fun v => [.ref 77, .int v, .int x2]) rfl rfl (fun _ => rfl) (A := x1.toInt) (B := 1) rfl rfl (by omega) (fun v186 e187 => s_inc (pc := 204) rw_218_204 (ls2 := fun v => [.ref 77, .int v186, .int v]) rfl rfl (fun _ => rfl) (A := x2.toInt) (B := 1) rfl rfl (by omega) (fun v188 e189 => to_go (pc := 207) rw_218_207 ?_))
                  have c_190 : M183.2.1 77 44 = (N.2.1 77 44) := (W_n W182 (fun z => absurd z.1 (by decide)) (W_n W176 (fun z => absurd z.1 (by decide)) c_156))
                  have t_191 : (M183.2.1 77 44).toInt = (N.2.1 77 44).toInt := congrArg Int32.toInt c_190
                  have s_192 : LSm M183 (v186.toInt).toNat = LSm M183 ((x1.toInt).toNat + 1) := by rw [show (v186.toInt).toNat = (x1.toInt).toNat + 1 by omega]
                  have s_193 := LSm_s (M := M183) (x1.toInt).toNat
                  have s_194 : LSm M183 (x1.toInt).toNat = LSm N (x1.toInt).toNat := LSm_f _ (fun i z => (W_n W182 (by omega) (W_n W176 (by omega) (W_n W150 (by omega) rfl))))
                  have s_195 : (M183.2.1 111 (x1.toInt).toNat).toInt = v171.toInt := by rw [show (x1.toInt).toNat = (x1.toInt).toNat by omega]; exact congrArg Int32.toInt (W_e W182)
                  have j_196 := (AB_f (fun a i z => W_n W182 (by /-r111-/ omega) rfl) (AB_f (fun a i z => W_n W176 (by /-r110-/ omega) rfl) j_159))
                  have j_197 := (PS_f (fun a i z => W_n W182 (tg_379 a i _ z) rfl) (PS_f (fun a i z => W_n W176 (tg_380 a i _ z) rfl) (PS_f (fun a i z => W_n W150 (tg_381 a i z) rfl) g9)))
                  have c_198 : M183.2.1 77 42 = (N.2.1 77 42) := (W_n W182 (fun z => absurd z.1 (by decide)) (W_n W176 (fun z => absurd z.1 (by decide)) (W_n W150 (by decide) rfl)))
                  have t_199 : (M183.2.1 77 42).toInt = (N.2.1 77 42).toInt := congrArg Int32.toInt c_198
                  have c_200 : M183.2.1 77 43 = v148 := (W_n W182 (fun z => absurd z.1 (by decide)) (W_n W176 (fun z => absurd z.1 (by decide)) (W_e W150)))
                  have t_201 : (M183.2.1 77 43).toInt = v148.toInt := congrArg Int32.toInt c_200
                  have j_202 := (WKr_f (fun a i z => W_n W182 (tg_484 a i _ z) rfl) (WKr_f (fun a i z => W_n W176 (tg_485 a i _ z) rfl) (WKr_f (fun a i z => W_n W150 (tg_486 a i z) rfl) g12)))
                  exact ih M183 v186 v188 hG184 F185 (by omega) (by omega) (by omega) (by omega) (by omega) (by rw [show (v186.toInt).toNat = (x1.toInt).toNat + 1 by omega, show v188.toInt = x2.toInt + 1 by omega]; exact DK_push g6 (by omega) (by omega) (by have z : N.2.1 101 (x2.toInt).toNat = v154 := (((W_n W150 (by omega) rfl)).symm.trans w_155); rw [z]; omega) (Or.inr (by rw [show (x1.toInt).toNat - 1 = (v137.toInt).toNat by omega, w_140, w_144]; omega)) (fun r i z => (W_n W182 (by omega) (W_n W176 (by omega) (W_n W150 (by omega) rfl)))) (by rw [(W_n W182 (by omega) (W_e W176))] <;> omega)) (fun i z => by
                      by_cases ei : i = (x1.toInt).toNat
                      · rw [ei]; omega
                      · rw [(W_n W182 (by omega) (W_n W176 (by omega) (W_n W150 (by omega) rfl)))]; exact g7 i (by omega)) j_196 j_197 (by omega) (by omega) j_202 (RNK_a1 g13 g12 (Or.inr (by rw [show (x1.toInt).toNat - 1 = (v137.toInt).toNat by omega, w_140, w_144]; omega)) (by omega) (by omega) (by omega) (by rw [(show N.2.1 101 (x2.toInt).toNat = v154 from (((W_n W150 (by omega) rfl)).symm.trans w_155))]; omega) (by rw [(show N.2.1 102 (x2.toInt).toNat = v171 from (((W_n W150 (by omega) rfl)).symm.trans w_172))]; omega) (fun i hi => ⟨(W_n W182 (by omega) (W_n W176 (by omega) (W_n W150 (by omega) rfl))), (W_n W182 (by omega) (W_n W176 (by omega) (W_n W150 (by omega) rfl)))⟩) (by rw [show (x1.toInt).toNat = (x1.toInt).toNat by omega, show M183.2.1 110 (x1.toInt).toNat = x2 from (W_n W182 (by omega) (W_e W176))] <;> omega) (by rw [show (x1.toInt).toNat = (x1.toInt).toNat by omega, show M183.2.1 111 (x1.toInt).toNat = v171 from (W_e W182), (show N.2.1 102 (x2.toInt).toNat = v171 from (((W_n W150 (by omega) rfl)).symm.trans w_172))]) (by omega) (by omega) (by omega) (by omega)) (by omega)
                · refine to_an (pc := 172) rw_218_172 rfl (s_gR (pc := 173) rw_218_173 hG152 rfl (v := 105) rfl (to_in (pc := 176) rw_218_176 rfl (s_ial (pc := 177) rw_218_177 hG152 rfl (n := 40) rfl rfl (A := x2.toInt) rfl (by omega) (by omega) (lo := 0) (hi := 40) rfl rfl (fun v203 w_204 _ _ => ?_))))
                  have t_205 := congrArg Int32.toInt w_204
                  have s_206 := DK_skip g6 (by omega) (by omega) (by have z : N.2.1 101 (x2.toInt).toNat = v154 := (((W_n W150 (by omega) rfl)).symm.trans w_155); rw [z]; omega) (Or.inr (by rw [show (x1.toInt).toNat - 1 = (v137.toInt).toNat by omega, w_140, w_144]; omega))
                  have s_207 := s_206.2
                  rw [(((W_n W150 (by omega) rfl)).symm.trans w_204)] at s_207
                  refine to_isn (pc := 178) rw_218_178 (ls2 := [.ref 77, .int x1, .int v203]) rfl rfl (to_go (pc := 179) rw_218_179 ?_)
                  have s_209 : LSm M151 (x1.toInt).toNat = LSm N (x1.toInt).toNat := LSm_f _ (fun i z => (W_n W150 (by omega) rfl))
                  have j_210 := (PS_f (fun a i z => W_n W150 (tg_381 a i z) rfl) g9)
                  have c_211 : M151.2.1 77 42 = (N.2.1 77 42) := (W_n W150 (by decide) rfl)
                  have t_212 : (M151.2.1 77 42).toInt = (N.2.1 77 42).toInt := congrArg Int32.toInt c_211
                  have c_213 : M151.2.1 77 43 = v148 := (W_e W150)
                  have t_214 : (M151.2.1 77 43).toInt = v148.toInt := congrArg Int32.toInt c_213
                  have j_215 := (WKr_f (fun a i z => W_n W150 (tg_486 a i z) rfl) g12)
                  exact ih M151 x1 v203 hG152 F153 (by omega) (by omega) (by omega) (by omega) (by omega) (DK_f (fun r i z => (W_n W150 (by omega) rfl)) (by have z := (s_206).1; rw [(((W_n W150 (by omega) rfl)).symm.trans w_204)] at z; exact z)) (fun i z => by rw [(W_n W150 (by omega) rfl)]; exact g7 i z) j_159 j_210 (by omega) (by omega) j_215 (RNK_a0 g13 g12 (Or.inr (by rw [show (x1.toInt).toNat - 1 = (v137.toInt).toNat by omega, w_140, w_144]; omega)) (by omega) (by omega) (by omega) (by rw [(show N.2.1 101 (x2.toInt).toNat = v154 from (((W_n W150 (by omega) rfl)).symm.trans w_155))]; omega) (by rw [(show N.2.1 102 (x2.toInt).toNat = v171 from (((W_n W150 (by omega) rfl)).symm.trans w_172))]; omega) (fun r i z => (W_n W150 (by omega) rfl)) (by omega) (by omega) (by rw [show N.2.1 105 (x2.toInt).toNat = v203 from (((W_n W150 (by omega) rfl)).symm.trans w_204)]) (by omega)) (by omega)
              · refine to_an (pc := 142) rw_218_142 rfl (to_in (pc := 143) rw_218_143 rfl (s_v (pc := 144) rw_218_144 (dp0 hd (by decide)) (ls0 := [.ref 77, .int x2, .null, .null]) rfl (Nat.le_of_ble_eq_true rfl) (Nat.le_of_ble_eq_true rfl) rfl (to_rc rfl rfl rfl (g_o hG152 rfl)) rfl ?_))
                have s_216 := AB_u (A := x2.toInt) j_159 (by omega) (by omega) (by omega)
                have t_217 : (M151.2.1 101 (x2.toInt).toNat).toInt = (N.2.1 101 (x2.toInt).toNat).toInt := congrArg Int32.toInt (W_n W150 (by omega) rfl)
                have t_218 : (M151.2.1 102 (x2.toInt).toNat).toInt = (N.2.1 102 (x2.toInt).toNat).toInt := congrArg Int32.toInt (W_n W150 (by omega) rfl)
                have t_219 : (M151.2.1 103 (x2.toInt).toNat).toInt = (N.2.1 103 (x2.toInt).toNat).toInt := congrArg Int32.toInt (W_n W150 (by omega) rfl)
                have t_220 : (M151.2.1 104 (x2.toInt).toNat).toInt = (N.2.1 104 (x2.toInt).toNat).toInt := congrArg Int32.toInt (W_n W150 (by omega) rfl)
                have s_221 := g_b hG152 (a := 103) (i := (x2.toInt).toNat) (lo := -1) (hi := 5) rfl rfl
                have j_222 := (PS_f (fun a i z => W_n W150 (tg_381 a i z) rfl) g9)
                refine C_217 hX (dp1 hd (by decide)) hG152 (by omega) (by omega) rfl rfl (by omega) (by omega) (by omega) (by omega) (by omega) j_222 (a := x2) (o := (M151.2.1 102 (x2.toInt).toNat)) (t := (M151.2.1 103 (x2.toInt).toNat)) (fun M226 hG224 F223 p_225 => ?_)
                have F227 := FR.c F153 F223 tg_373
                have c_228 : M226.2.1 77 42 = (N.2.1 77 42) := (F_n F223 (show ¬ (77 = 99 ∨ 77 = 100) by decide) (W_n W150 (by decide) rfl))
                have t_229 : (M226.2.1 77 42).toInt = (N.2.1 77 42).toInt := congrArg Int32.toInt c_228
                have c_230 : M226.2.1 77 43 = v148 := (F_n F223 (show ¬ (77 = 99 ∨ 77 = 100) by decide) (W_e W150))
                have t_231 : (M226.2.1 77 43).toInt = v148.toInt := congrArg Int32.toInt c_230
                refine to_an (pc := 147) rw_218_147 rfl (s_gR (pc := 148) rw_218_148 hG224 rfl (v := 101) rfl (to_in (pc := 151) rw_218_151 rfl (s_ialk (pc := 152) rw_218_152 hG224 rfl (n := 40) rfl rfl (A := x2.toInt) rfl (by omega) (by omega) (v := v154) (F_n F223 (show ¬ (101 = 99 ∨ 101 = 100) by decide) w_155) (to_c (pc := 153) rw_218_153 (x := (2 : Int32)) rfl rfl (b_cge_f (pc := 154) rw_218_154 (A := v154.toInt) (B := 2) rfl rfl (by omega) (s_inc (pc := 157) rw_218_157 (ls2 := fun v => [.ref 77, .int x1, .int v]) rfl rfl (fun _ => rfl) (A := x2.toInt) (B := 1) rfl rfl (by omega) (fun v234 e235 => to_go (pc := 160) rw_218_160 ?_)))))))
                have c_236 : M226.2.1 77 44 = (N.2.1 77 44) := (F_n F223 (show ¬ (77 = 99 ∨ 77 = 100) by decide) c_156)
                have t_237 : (M226.2.1 77 44).toInt = (N.2.1 77 44).toInt := congrArg Int32.toInt c_236
                have s_238 : LSm M226 (x1.toInt).toNat = LSm N (x1.toInt).toNat := LSm_f _ (fun i z => (F_n F223 (show ¬ (111 = 99 ∨ 111 = 100) by decide) (W_n W150 (by omega) rfl)))
                have j_239 := (AB_f (tg_359 F223) j_159)
                have j_240 := (WKr_f (tg_481 F223) (WKr_f (fun a i z => W_n W150 (tg_486 a i z) rfl) g12))
                exact ih M226 x1 v234 hG224 F227 (by omega) (by omega) (by omega) (by omega) (by omega) (by rw [show v234.toInt = x2.toInt + 1 by omega]; exact (DK_f (fun r i z => (F_n F223 (show ¬ (r = 99 ∨ r = 100) by omega) (W_n W150 (by omega) rfl))) (DK_next g6 (Or.inr (by rw [show (x1.toInt).toNat - 1 = (v137.toInt).toNat by omega, w_140, w_144]; omega))))) (fun i z => by rw [(F_n F223 (show ¬ (111 = 99 ∨ 111 = 100) by decide) (W_n W150 (by omega) rfl))]; exact g7 i z) j_239 p_225 (by omega) (by omega) j_240 (RNK_1 (dp := 0) g13 g12 (Or.inr (by rw [show (x1.toInt).toNat - 1 = (v137.toInt).toNat by omega, w_140, w_144]; omega)) (by omega) (by omega) (by omega) (Or.inr ⟨by rw [(show N.2.1 101 (x2.toInt).toNat = v154 from (((W_n W150 (by omega) rfl)).symm.trans w_155))]; omega, rfl⟩) (fun r i z => (F_n F223 (show ¬ (r = 99 ∨ r = 100) by omega) (W_n W150 (by omega) rfl))) (by omega) (by omega) (by omega) (by omega)) (by omega)
            · refine to_an (pc := 127) rw_218_127 rfl (to_in (pc := 128) rw_218_128 rfl (s_v (pc := 129) rw_218_129 (dp0 hd (by decide)) (ls0 := [.ref 77, .int x2, .null, .null, .null, .null, .null]) rfl (Nat.le_of_ble_eq_true rfl) (Nat.le_of_ble_eq_true rfl) rfl (to_rc rfl rfl rfl (g_o hG152 rfl)) rfl ?_))
              have c_241 : M151.2.1 77 42 = (N.2.1 77 42) := (W_n W150 (by decide) rfl)
              have t_242 : (M151.2.1 77 42).toInt = (N.2.1 77 42).toInt := congrArg Int32.toInt c_241
              have s_243 := AB_u (A := x2.toInt) j_159 (by omega) (by omega) (by omega)
              have t_244 : (M151.2.1 101 (x2.toInt).toNat).toInt = (N.2.1 101 (x2.toInt).toNat).toInt := congrArg Int32.toInt (W_n W150 (by omega) rfl)
              have t_245 : (M151.2.1 102 (x2.toInt).toNat).toInt = (N.2.1 102 (x2.toInt).toNat).toInt := congrArg Int32.toInt (W_n W150 (by omega) rfl)
              have t_246 : (M151.2.1 103 (x2.toInt).toNat).toInt = (N.2.1 103 (x2.toInt).toNat).toInt := congrArg Int32.toInt (W_n W150 (by omega) rfl)
              have t_247 : (M151.2.1 104 (x2.toInt).toNat).toInt = (N.2.1 104 (x2.toInt).toNat).toInt := congrArg Int32.toInt (W_n W150 (by omega) rfl)
              have s_248 := g_b hG152 (a := 103) (i := (x2.toInt).toNat) (lo := -1) (hi := 5) rfl rfl
              have t_249 : (M151.2.1 102 (x2.toInt).toNat).toInt = (N.2.1 102 (x2.toInt).toNat).toInt := congrArg Int32.toInt (W_n W150 (by omega) rfl)
              have t_250 : (M151.2.1 102 (x2.toInt).toNat).toInt = (N.2.1 102 (x2.toInt).toNat).toInt := congrArg Int32.toInt (W_n W150 (by omega) rfl)
              have t_251 : (M151.2.1 103 (x2.toInt).toNat).toInt = (N.2.1 103 (x2.toInt).toNat).toInt := congrArg Int32.toInt (W_n W150 (by omega) rfl)
              have t_252 : (M151.2.1 104 (x2.toInt).toNat).toInt = (N.2.1 104 (x2.toInt).toNat).toInt := congrArg Int32.toInt (W_n W150 (by omega) rfl)
              have j_253 := (PS_f (fun a i z => W_n W150 (tg_381 a i z) rfl) g9)
              refine E_216 hX (dp1 hd (by decide)) hG152 (by omega) (by omega) (by omega) (by omega) (by omega) (by omega) j_253 (by omega) (a := x2) (fun M258 hG255 F254 p_256 p_257 => ?_)
              have F259 := FR.c F153 F254 tg_374
              have c_260 : M258.2.1 77 43 = v148 := (F_n F254 (show ¬ (77 = 77 ∧ 43 = 42 ∨ 77 = 99 ∨ 77 = 100 ∨ 77 = 109) by decide) (W_e W150))
              have t_261 : (M258.2.1 77 43).toInt = v148.toInt := congrArg Int32.toInt c_260
              refine to_an (pc := 132) rw_218_132 rfl (s_gR (pc := 133) rw_218_133 hG255 rfl (v := 101) rfl (to_in (pc := 136) rw_218_136 rfl (s_ialk (pc := 137) rw_218_137 hG255 rfl (n := 40) rfl rfl (A := x2.toInt) rfl (by omega) (by omega) (v := v154) (F_n F254 (show ¬ (101 = 77 ∧ (x2.toInt).toNat = 42 ∨ 101 = 99 ∨ 101 = 100 ∨ 101 = 109) by omega) w_155) (to_c (pc := 138) rw_218_138 (x := (1 : Int32)) rfl rfl (b_cne_t (pc := 139) rw_218_139 (A := v154.toInt) (B := 1) rfl rfl (by omega) (to_an (pc := 147) rw_218_147 rfl (s_gR (pc := 148) rw_218_148 hG255 rfl (v := 101) rfl (to_in (pc := 151) rw_218_151 rfl (s_ialk (pc := 152) rw_218_152 hG255 rfl (n := 40) rfl rfl (A := x2.toInt) rfl (by omega) (by omega) (v := v154) (F_n F254 (show ¬ (101 = 77 ∧ (x2.toInt).toNat = 42 ∨ 101 = 99 ∨ 101 = 100 ∨ 101 = 109) by omega) w_155) (to_c (pc := 153) rw_218_153 (x := (2 : Int32)) rfl rfl (b_cge_f (pc := 154) rw_218_154 (A := v154.toInt) (B := 2) rfl rfl (by omega) ?_)))))))))))
              refine s_inc (pc := 157) rw_218_157 (ls2 := fun v => [.ref 77, .int x1, .int v]) rfl rfl (fun _ => rfl) (A := x2.toInt) (B := 1) rfl rfl (by omega) (fun v266 e267 => to_go (pc := 160) rw_218_160 ?_)
              have c_268 : M258.2.1 77 44 = (N.2.1 77 44) := (F_n F254 (show ¬ (77 = 77 ∧ 44 = 42 ∨ 77 = 99 ∨ 77 = 100 ∨ 77 = 109) by decide) c_156)
              have t_269 : (M258.2.1 77 44).toInt = (N.2.1 77 44).toInt := congrArg Int32.toInt c_268
              have s_270 : LSm M258 (x1.toInt).toNat = LSm N (x1.toInt).toNat := LSm_f _ (fun i z => (F_n F254 (show ¬ (111 = 77 ∧ i = 42 ∨ 111 = 99 ∨ 111 = 100 ∨ 111 = 109) by omega) (W_n W150 (by omega) rfl)))
              have j_271 := (AB_f (tg_360 F254) j_159)
              have j_272 := (WKr_f (tg_482 F254) (WKr_f (fun a i z => W_n W150 (tg_486 a i z) rfl) g12))
              exact ih M258 x1 v266 hG255 F259 (by omega) (by omega) (by omega) (by omega) (by omega) (by rw [show v266.toInt = x2.toInt + 1 by omega]; exact (DK_f (fun r i z => (F_n F254 (show ¬ (r = 77 ∧ i = 42 ∨ r = 99 ∨ r = 100 ∨ r = 109) by omega) (W_n W150 (by omega) rfl))) (DK_next g6 (Or.inr (by rw [show (x1.toInt).toNat - 1 = (v137.toInt).toNat by omega, w_140, w_144]; omega))))) (fun i z => by rw [(F_n F254 (show ¬ (111 = 77 ∧ i = 42 ∨ 111 = 99 ∨ 111 = 100 ∨ 111 = 109) by omega) (W_n W150 (by omega) rfl))]; exact g7 i z) j_271 p_256 (by omega) (by omega) j_272 (RNK_1 (dp := 1) g13 g12 (Or.inr (by rw [show (x1.toInt).toNat - 1 = (v137.toInt).toNat by omega, w_140, w_144]; omega)) (by omega) (by omega) (by omega) (Or.inl ⟨by rw [(show N.2.1 101 (x2.toInt).toNat = v154 from (((W_n W150 (by omega) rfl)).symm.trans w_155))]; omega, rfl⟩) (fun r i z => (F_n F254 (show ¬ (r = 77 ∧ i = 42 ∨ r = 99 ∨ r = 100 ∨ r = 109) by omega) (W_n W150 (by omega) rfl))) (by omega) (by omega) (by omega) (by omega)) (by omega)
          · refine to_c (pc := 106) rw_218_106 (x := (1 : Int32)) rfl rfl (to_r0 (pc := 107) rw_218_107 ?_)
            have k_273 : (1 : Int32).toInt = 1 := rfl
            exact h (1 : Int32) N hG F0 g9 (by decide) (by decide) (RNK_e1 g13 g12 (Or.inr (by rw [show (x1.toInt).toNat - 1 = (v137.toInt).toNat by omega, w_140, w_144]; omega)) (by omega) (by omega) (by omega))
        · refine to_c (pc := 94) rw_218_94 (x := (0 : Int32)) rfl rfl (to_r0 (pc := 95) rw_218_95 ?_)
          have k_274 : (0 : Int32).toInt = 0 := rfl
          exact h (0 : Int32) N hG F0 g9 (by decide) (by decide) (RNK_e0 g13 g12 (Or.inr (by rw [show (x1.toInt).toNat - 1 = (v137.toInt).toNat by omega, w_140, w_144]; omega)) (by omega) (by omega))
      · refine to_an (pc := 43) rw_218_43 rfl (s_gR (pc := 44) rw_218_44 hG rfl (v := 111) rfl (to_in (pc := 47) rw_218_47 rfl (to_c (pc := 48) rw_218_48 (x := (1 : Int32)) rfl rfl (s_subk (pc := 49) rw_218_49 (A := x1.toInt) (B := 1) rfl rfl (by omega) (v := v137) e138 (to_dup2 (pc := 50) rw_218_50 (s_ial (pc := 51) rw_218_51 hG rfl (n := 5) rfl rfl (A := v137.toInt) rfl (by omega) (by omega) (lo := 0) (hi := 99) rfl rfl (fun v277 w_278 _ _ => ?_)))))))
        have t_279 := congrArg Int32.toInt w_278
        have s_280 := g7 (v137.toInt).toNat (by omega)
        rw [w_278] at s_280
        refine to_c (pc := 52) rw_218_52 (x := (1 : Int32)) rfl rfl (s_sub (pc := 53) rw_218_53 (A := v277.toInt) (B := 1) rfl rfl (by omega) (fun v281 e282 => s_ias (pc := 54) rw_218_54 hG rfl (n := 5) rfl (A := v137.toInt) rfl (by omega) (by omega) (fun M284 W283 => ?_)))
        have hG285 := g_w hG W283 (A := v281.toInt) rfl (lo := 0) (hi := 99) rfl rfl (by omega) (by decide)
        have F286 := FR.w F0 W283 (show 111 = 77 ∧ ((v137.toInt).toNat = 42 ∨ (v137.toInt).toNat = 43) ∨ 94 ≤ 111 ∧ 111 ≤ 98 ∨ 111 = 99 ∨ 111 = 100 ∨ 111 = 109 ∨ 111 = 110 ∨ 111 = 111 by omega)
        refine to_an (pc := 55) rw_218_55 rfl (s_gR (pc := 56) rw_218_56 hG285 rfl (v := 111) rfl (to_in (pc := 59) rw_218_59 rfl (to_c (pc := 60) rw_218_60 (x := (1 : Int32)) rfl rfl (s_subk (pc := 61) rw_218_61 (A := x1.toInt) (B := 1) rfl rfl (by omega) (v := v137) e138 (s_ialk (pc := 62) rw_218_62 hG285 rfl (n := 5) rfl rfl (A := v137.toInt) rfl (by omega) (by omega) (v := v281) (W_e W283) (b_ile (pc := 63) rw_218_63 (A := v281.toInt) rfl (fun h291 => ?_) (fun h291 => ?_)))))))
        · refine s_inc (pc := 80) rw_218_80 (ls2 := fun v => [.ref 77, .int v, .int x2]) rfl rfl (fun _ => rfl) (A := x1.toInt) (B := -1) rfl rfl (by omega) (fun v292 e293 => to_go (pc := 83) rw_218_83 ?_)
          have c_294 : M284.2.1 77 44 = (N.2.1 77 44) := (W_n W283 (fun z => absurd z.1 (by decide)) rfl)
          have t_295 : (M284.2.1 77 44).toInt = (N.2.1 77 44).toInt := congrArg Int32.toInt c_294
          have s_296 : LSm N (x1.toInt).toNat = LSm N ((v137.toInt).toNat + 1) := by rw [show (x1.toInt).toNat = (v137.toInt).toNat + 1 by omega]
          have s_297 := LSm_s (M := N) (v137.toInt).toNat
          have s_298 : LSm M284 (v137.toInt).toNat = LSm N (v137.toInt).toNat := LSm_f _ (fun i z => (W_n W283 (by omega) rfl))
          have s_299 := g_b hG (a := 111) (i := (v137.toInt).toNat) (lo := 0) (hi := 99) rfl rfl
          have s_300 : LSm M284 (v292.toInt).toNat = LSm M284 (v137.toInt).toNat := by rw [show (v292.toInt).toNat = (v137.toInt).toNat by omega]
          have j_301 := (AB_f (fun a i z => W_n W283 (by /-r111-/ omega) rfl) g8)
          have j_302 := (PS_f (fun a i z => W_n W283 (tg_379 a i _ z) rfl) g9)
          have c_303 : M284.2.1 77 42 = (N.2.1 77 42) := (W_n W283 (fun z => absurd z.1 (by decide)) rfl)
          have t_304 : (M284.2.1 77 42).toInt = (N.2.1 77 42).toInt := congrArg Int32.toInt c_303
          have c_305 : M284.2.1 77 43 = (N.2.1 77 43) := (W_n W283 (fun z => absurd z.1 (by decide)) rfl)
          have t_306 : (M284.2.1 77 43).toInt = (N.2.1 77 43).toInt := congrArg Int32.toInt c_305
          have j_307 := (WKr_f (fun a i z => W_n W283 (tg_484 a i _ z) rfl) g12)
          exact ih M284 v292 x2 hG285 F286 (by omega) (by omega) (by omega) (by omega) (by omega) (by rw [show (v292.toInt).toNat = (v137.toInt).toNat by omega]; exact (DK_f (fun r i z => (W_n W283 (by omega) rfl)) (DK_pop s_141))) (fun i z => by rw [(W_n W283 (by omega) rfl)]; exact g7 i (by omega)) j_301 j_302 (by omega) (by omega) j_307 (RNK_lx (show RNK A9 n9 N x2.toInt ((v137.toInt).toNat + 1) from (by rw [show (v137.toInt).toNat + 1 = (x1.toInt).toNat by omega]; exact g13)) g12 (by rw [w_140, w_144]; omega) (by rw [(show N.2.1 111 (v137.toInt).toNat = v277 from (by rw [show (v137.toInt).toNat = (v137.toInt).toNat by omega]; exact w_278))]; omega) (fun i => (W_n W283 (by omega) rfl)) (fun i hi => (W_n W283 (by omega) rfl)) (by omega) (by omega) (by omega) (by omega)) (by omega)
        · refine to_an (pc := 66) rw_218_66 rfl (s_gR (pc := 67) rw_218_67 hG285 rfl (v := 110) rfl (to_in (pc := 70) rw_218_70 rfl (to_c (pc := 71) rw_218_71 (x := (1 : Int32)) rfl rfl (s_subk (pc := 72) rw_218_72 (A := x1.toInt) (B := 1) rfl rfl (by omega) (v := v137) e138 (s_ialk (pc := 73) rw_218_73 hG285 rfl (n := 5) rfl rfl (A := v137.toInt) rfl (by omega) (by omega) (v := v139) (W_n W283 (by omega) w_140) (to_c (pc := 74) rw_218_74 (x := (1 : Int32)) rfl rfl (s_add (pc := 75) rw_218_75 (A := v139.toInt) (B := 1) rfl rfl (by omega) (fun v312 e313 => to_isn (pc := 76) rw_218_76 (ls2 := [.ref 77, .int x1, .int v312]) rfl rfl (to_go (pc := 77) rw_218_77 ?_)))))))))
          have c_314 : M284.2.1 77 44 = (N.2.1 77 44) := (W_n W283 (fun z => absurd z.1 (by decide)) rfl)
          have t_315 : (M284.2.1 77 44).toInt = (N.2.1 77 44).toInt := congrArg Int32.toInt c_314
          have s_316 : LSm N (x1.toInt).toNat = LSm N ((v137.toInt).toNat + 1) := by rw [show (x1.toInt).toNat = (v137.toInt).toNat + 1 by omega]
          have s_317 := LSm_s (M := N) (v137.toInt).toNat
          have s_318 : LSm M284 (v137.toInt).toNat = LSm N (v137.toInt).toNat := LSm_f _ (fun i z => (W_n W283 (by omega) rfl))
          have s_319 := g_b hG (a := 111) (i := (v137.toInt).toNat) (lo := 0) (hi := 99) rfl rfl
          have s_320 : LSm M284 (x1.toInt).toNat = LSm M284 ((v137.toInt).toNat + 1) := by rw [show (x1.toInt).toNat = (v137.toInt).toNat + 1 by omega]
          have s_321 := LSm_s (M := M284) (v137.toInt).toNat
          have s_322 : (M284.2.1 111 (v137.toInt).toNat).toInt = v281.toInt := by rw [show (v137.toInt).toNat = (v137.toInt).toNat by omega]; exact congrArg Int32.toInt (W_e W283)
          have j_323 := (AB_f (fun a i z => W_n W283 (by /-r111-/ omega) rfl) g8)
          have j_324 := (PS_f (fun a i z => W_n W283 (tg_379 a i _ z) rfl) g9)
          have c_325 : M284.2.1 77 42 = (N.2.1 77 42) := (W_n W283 (fun z => absurd z.1 (by decide)) rfl)
          have t_326 : (M284.2.1 77 42).toInt = (N.2.1 77 42).toInt := congrArg Int32.toInt c_325
          have c_327 : M284.2.1 77 43 = (N.2.1 77 43) := (W_n W283 (fun z => absurd z.1 (by decide)) rfl)
          have t_328 : (M284.2.1 77 43).toInt = (N.2.1 77 43).toInt := congrArg Int32.toInt c_327
          have j_329 := (WKr_f (fun a i z => W_n W283 (tg_484 a i _ z) rfl) g12)
          exact ih M284 x1 v312 hG285 F286 (by omega) (by omega) (by omega) (by omega) (by omega) (by rw [show (x1.toInt).toNat = (v137.toInt).toNat + 1 by omega]; exact (DK_f (fun r i z => (W_n W283 (by omega) rfl)) (DK_dec s_141 (by rw [w_140]; omega)))) (fun i z => by
              by_cases ei : i = (v137.toInt).toNat
              · rw [ei]; omega
              · rw [(W_n W283 (by omega) rfl)]; exact g7 i (by omega)) j_323 j_324 (by omega) (by omega) j_329 (RNK_lp (show RNK A9 n9 N x2.toInt ((v137.toInt).toNat + 1) from (by rw [show (v137.toInt).toNat + 1 = (x1.toInt).toNat by omega]; exact g13)) g12 (by rw [w_140, w_144]; omega) (by rw [(show N.2.1 111 (v137.toInt).toNat = v277 from (by rw [show (v137.toInt).toNat = (v137.toInt).toNat by omega]; exact w_278))]; omega) (fun i => (W_n W283 (by omega) rfl)) (fun i hi => (W_n W283 (by omega) rfl)) (by rw [(show M284.2.1 111 (v137.toInt).toNat = v281 from (by rw [show (v137.toInt).toNat = (v137.toInt).toNat by omega]; exact (W_e W283))), (show N.2.1 111 (v137.toInt).toNat = v277 from (by rw [show (v137.toInt).toNat = (v137.toInt).toNat by omega]; exact w_278))]; omega) (by omega) (by omega) (by rw [w_140]; omega) (by omega)) (by omega)
set_option maxRecDepth 4000 in
set_option maxHeartbeats 0 in
theorem E_218 {X : mm_X} {d : Nat} {M : mm_M} {Q : Option Value → mm_M → Prop} {A9 : x_A} {n9 : Int} (hX : g_X X) (hd : 3 ≤ d) (hG : g_G M) (q1 : NJ M) (q2 : PS M) (q3 : AB M) (q4 : ST M) (q5 : (M.2.1 77 52).toInt ≤ 0) (q6 : (M.2.1 77 44).toInt = n9) (q7 : WKr M A9 n9 []) (h : ∀ (r : Int32) (M1 : mm_M), g_G M1 → FR md_do M M1 → PS M1 → (0 ≤ r.toInt) → (r.toInt ≤ 1) → (RUN A9 n9 (0, [], 0, 0) (r.toInt, (M1.2.1 77 43).toInt, (M1.2.1 77 42).toInt)) → Q (some (.int r)) M1) : mm_T X d 217 0 [.ref 77, .null, .null] [] M Q := by
  have F0 : FR md_do M M := FR.rf
  have b_330 := g_b hG (a := 77) (i := 52) (lo := 0) (hi := 5) rfl rfl
  have b_331 := g_b hG (a := 77) (i := 44) (lo := 0) (hi := 40) rfl rfl
  have b_332 := g_b hG (a := 77) (i := 43) (lo := 0) (hi := 3000) rfl rfl
  refine to_an (pc := 0) rw_218_0 rfl (to_an (pc := 1) rw_218_1 rfl ?_)
  have b_333 := g_b hG (a := 77) (i := 29) (lo := 0) (hi := 150) rfl rfl
  refine tt_gI (pc := 2) rw_218_2 (g_o hG rfl) (v := (M.2.1 77 29)) rfl (s_v (pc := 5) rw_218_5 (dp0 hd (by decide)) (ls0 := [.ref 77, .int (M.2.1 77 29), .null, .null]) rfl (Nat.le_of_ble_eq_true rfl) (Nat.le_of_ble_eq_true rfl) rfl (to_rc rfl rfl rfl (g_o hG rfl)) rfl (C_189 hX (dp1 hd (by decide)) hG (by omega) (by omega) (by omega) q1 (n := (M.2.1 77 29)) (fun M336 hG335 F334 => ?_)))
  have F337 := FR.c F0 F334 tg_375
  refine to_an (pc := 8) rw_218_8 rfl (to_c (pc := 9) rw_218_9 (x := (0 : Int32)) rfl rfl (s_pI (pc := 10) rw_218_10 hG335 rfl (fun M339 W338 => ?_)))
  have hG340 := g_wf hG335 W338 rfl rfl (by decide)
  have F341 := FR.w F337 W338 (show 77 = 77 ∧ (42 = 42 ∨ 42 = 43) ∨ 94 ≤ 77 ∧ 77 ≤ 98 ∨ 77 = 99 ∨ 77 = 100 ∨ 77 = 109 ∨ 77 = 110 ∨ 77 = 111 by decide)
  refine to_an (pc := 13) rw_218_13 rfl (to_c (pc := 14) rw_218_14 (x := (0 : Int32)) rfl rfl (s_pI (pc := 15) rw_218_15 hG340 rfl (fun M343 W342 => ?_)))
  have hG344 := g_w hG340 W342 (A := 0) rfl (lo := 0) (hi := 3000) rfl rfl (by omega) (by decide)
  have F345 := FR.w F341 W342 (show 77 = 77 ∧ (43 = 42 ∨ 43 = 43) ∨ 94 ≤ 77 ∧ 77 ≤ 98 ∨ 77 = 99 ∨ 77 = 100 ∨ 77 = 109 ∨ 77 = 110 ∨ 77 = 111 by decide)
  refine to_c (pc := 18) rw_218_18 (x := (0 : Int32)) rfl rfl (to_isn (pc := 19) rw_218_19 (ls2 := [.ref 77, .int (0 : Int32), .null]) rfl rfl (to_c (pc := 20) rw_218_20 (x := (0 : Int32)) rfl rfl (to_isn (pc := 21) rw_218_21 (ls2 := [.ref 77, .int (0 : Int32), .int (0 : Int32)]) rfl rfl ?_)))
  have k_346 : (0 : Int32).toInt = 0 := rfl
  have c_347 : M343.2.1 77 44 = (M.2.1 77 44) := (W_n W342 (by decide) (W_n W338 (by decide) (F_n F334 (show ¬ (94 ≤ 77 ∧ 77 ≤ 98) by decide) rfl)))
  have t_348 : (M343.2.1 77 44).toInt = (M.2.1 77 44).toInt := congrArg Int32.toInt c_347
  have c_349 : M343.2.1 77 52 = (M.2.1 77 52) := (W_n W342 (by decide) (W_n W338 (by decide) (F_n F334 (show ¬ (94 ≤ 77 ∧ 77 ≤ 98) by decide) rfl)))
  have t_350 : (M343.2.1 77 52).toInt = (M.2.1 77 52).toInt := congrArg Int32.toInt c_349
  have j_351 := (ST_f (fun a i z => W_n W342 (by /-r77,43-/ omega) rfl) (ST_f (fun a i z => W_n W338 (by /-r77,42-/ omega) rfl) (ST_f (tg_361 F334) q4)))
  have s_352 : LSm M343 ((0 : Int32).toInt).toNat = 0 := rfl
  have j_353 := (AB_f (fun a i z => W_n W342 (by /-r77,43-/ omega) rfl) (AB_f (fun a i z => W_n W338 (by /-r77,42-/ omega) rfl) (AB_f (tg_362 F334) q3)))
  have j_354 := (PS_f (fun a i z => W_n W342 (tg_381 a i z) rfl) (PS_f (fun a i z => W_n W338 (tg_382 a i z) rfl) (PS_f (tg_363 F334) q2)))
  have c_355 : M343.2.1 77 42 = (0 : Int32) := (W_n W342 (by decide) (W_e W338))
  have t_356 : (M343.2.1 77 42).toInt = (0 : Int32).toInt := congrArg Int32.toInt c_355
  have c_357 : M343.2.1 77 43 = (0 : Int32) := (W_e W342)
  have t_358 : (M343.2.1 77 43).toInt = (0 : Int32).toInt := congrArg Int32.toInt c_357
  have j_359 := (WKr_f (fun a i z => W_n W342 (tg_486 a i z) rfl) (WKr_f (fun a i z => W_n W338 (tg_487 a i z) rfl) (WKr_f (tg_483 F334) q7)))
  exact (U_218_0 (A9 := A9) (n9 := n9) hX hd q1 q2 q3 q4 q5 q6 q7 h (((3000 - (M343.2.1 77 43).toInt) * 1000 + LSm M343 ((0 : Int32).toInt).toNat).toNat + 1)) M343 (0 : Int32) (0 : Int32) hG344 F345 (by omega) (by omega) (by omega) (by omega) (by omega) (DK_0 j_351 (by omega)) (fun i z => absurd z (by omega)) j_353 j_354 (by omega) (by omega) j_359 (RNK_0 (by omega) (by omega) (by omega) (by omega)) (by omega)
