theorem tg_116 {M M1 : mm_M} (F : FR (fun a i : Nat => 95 ≤ a ∧ a ≤ 98) M M1) : ∀ a i : Nat, (81 ≤ a ∧ a ≤ 84) → M1.2.1 a i = M.2.1 a i := fun a i z => F_n F (show ¬ (95 ≤ a ∧ a ≤ 98) by omega) rfl
theorem tg_117 {M M1 : mm_M} (F : FR (fun a i : Nat => 95 ≤ a ∧ a ≤ 98) M M1) : ∀ a i : Nat, (a = 77 ∧ 11 ≤ i ∧ i ≤ 13 ∨ 80 ≤ a ∧ a ≤ 84 ∧ i < 8 ∨ 85 ≤ a ∧ a ≤ 86 ∧ i < 12) → M1.2.1 a i = M.2.1 a i := fun a i z => F_n F (show ¬ (95 ≤ a ∧ a ≤ 98) by omega) rfl
theorem tg_118 {M M1 : mm_M} (F : FR (fun a i : Nat => 95 ≤ a ∧ a ≤ 98) M M1) : ∀ a i : Nat, 88 ≤ a ∧ a ≤ 89 → M1.2.1 a i = M.2.1 a i := fun a i z => F_n F (show ¬ (95 ≤ a ∧ a ≤ 98) by omega) rfl
theorem tg_119 {M M1 : mm_M} (F : FR (fun a i : Nat => 95 ≤ a ∧ a ≤ 98) M M1) : ∀ a i : Nat, (90 ≤ a ∧ a ≤ 93) → M1.2.1 a i = M.2.1 a i := fun a i z => F_n F (show ¬ (95 ≤ a ∧ a ≤ 98) by omega) rfl
theorem tg_120 : ∀ a i : Nat, (95 ≤ a ∧ a ≤ 98) → (94 ≤ a ∧ a ≤ 98) := fun a i z => by omega
theorem tg_121 : ∀ a i j : Nat, (81 ≤ a ∧ a ≤ 84) → ¬ (a = 98 ∧ i = j) := fun a i j z => by omega
theorem tg_122 : ∀ a i j : Nat, (a = 77 ∧ 11 ≤ i ∧ i ≤ 13 ∨ 80 ≤ a ∧ a ≤ 84 ∧ i < 8 ∨ 85 ≤ a ∧ a ≤ 86 ∧ i < 12) → ¬ (a = 98 ∧ i = j) := fun a i j z => by omega
theorem tg_123 : ∀ a i j : Nat, 88 ≤ a ∧ a ≤ 89 → ¬ (a = 98 ∧ i = j) := fun a i j z => by omega
theorem tg_124 : ∀ a i j : Nat, (90 ≤ a ∧ a ≤ 93) → ¬ (a = 98 ∧ i = j) := fun a i j z => by omega
theorem tg_125 : ∀ a i j : Nat, (81 ≤ a ∧ a ≤ 84) → ¬ (a = 97 ∧ i = j) := fun a i j z => by omega
theorem tg_126 : ∀ a i j : Nat, (a = 77 ∧ 11 ≤ i ∧ i ≤ 13 ∨ 80 ≤ a ∧ a ≤ 84 ∧ i < 8 ∨ 85 ≤ a ∧ a ≤ 86 ∧ i < 12) → ¬ (a = 97 ∧ i = j) := fun a i j z => by omega
theorem tg_127 : ∀ a i j : Nat, 88 ≤ a ∧ a ≤ 89 → ¬ (a = 97 ∧ i = j) := fun a i j z => by omega
theorem tg_128 : ∀ a i j : Nat, (90 ≤ a ∧ a ≤ 93) → ¬ (a = 97 ∧ i = j) := fun a i j z => by omega
theorem tg_129 : ∀ a i j : Nat, (81 ≤ a ∧ a ≤ 84) → ¬ (a = 94 ∧ i = j) := fun a i j z => by omega
theorem tg_130 : ∀ a i j : Nat, (a = 77 ∧ 11 ≤ i ∧ i ≤ 13 ∨ 80 ≤ a ∧ a ≤ 84 ∧ i < 8 ∨ 85 ≤ a ∧ a ≤ 86 ∧ i < 12) → ¬ (a = 94 ∧ i = j) := fun a i j z => by omega
theorem tg_131 : ∀ a i j : Nat, 88 ≤ a ∧ a ≤ 89 → ¬ (a = 94 ∧ i = j) := fun a i j z => by omega
theorem tg_132 : ∀ a i j : Nat, (90 ≤ a ∧ a ≤ 93) → ¬ (a = 94 ∧ i = j) := fun a i j z => by omega
set_option maxRecDepth 4000 in
set_option maxHeartbeats 0 in
theorem U_189_0 {X : mm_X} {d : Nat} {M : mm_M} {Q : Option Value → mm_M → Prop} {n : Int32} {sg : x_S} {NN : x_N} {nz : Int} {ca : Int} (hX : g_X X) (hd : 2 ≤ d) (q1 : 0 ≤ n.toInt) (q2 : n.toInt ≤ 150) (q3 : n.toInt ≤ nz) (q4 : x_vn sg ca NN nz) (q5 : ca ≤ 30) (q6 : (M.2.1 77 28).toInt = ca) (q7 : CWk M sg) (q8 : FA M) (q9 : PLk M sg) (q10 : W8 M) (q11 : NTr M NN nz) (h : ∀ (M1 : mm_M), g_G M1 → FR md_kn M M1 → (KST M1 96 98 97 95 ca sg (x_kn sg NN (n.toInt).toNat)) → Q (none) M1) : ∀ nn9 : Nat, (∀ (N : mm_M) (x2 : Int32) (u3 : Value), g_G N → FR md_kn M N → (0 ≤ x2.toInt) → (x2.toInt ≤ 150) → (x2.toInt ≤ n.toInt) → (∀ k : Nat, (k : Int) < n.toInt → (N.2.1 94 k).toInt = 1 - x_st NN (n.toInt).toNat k) → (RPK N 96 98 97 95 ca sg NN n.toInt x2.toInt) → ((N.2.1 77 28).toInt = ca) → (CWk N sg) → (FA N) → (PLk N sg) → (W8 N) → (NTr N NN nz) → 150 - x2.toInt < (nn9 : Int) → mm_T X d 188 151 [.ref 77, .int n, .int x2, u3] [] N Q) := by
  intro nn9
  induction nn9 with
  | zero =>
    intro N x2 u3 hG F0 g1 g2 g3 g4 g5 g6 g7 g8 g9 g10 g11 hm
    have b_1 := g_b hG (a := 77) (i := 28) (lo := 0) (hi := 30) rfl rfl
    exfalso; omega
  | succ nn9 ih =>
    intro N x2 u3 hG F0 g1 g2 g3 g4 g5 g6 g7 g8 g9 g10 g11 hm
    have b_2 := g_b hG (a := 77) (i := 28) (lo := 0) (hi := 30) rfl rfl
    obtain ⟨K, i_1, i_2⟩ := g5
    have z_3 := g9.2.1
    have z_4 := g9.2.2.1
    have z_5 := g9.2.2.2.1
    have z_6 := g9.1
    have z_7 := z_6.1
    have z_8 := z_6.2.1
    have z_9 := z_6.2.2.1
    have z_10 := z_6.2.2.2.1
    have z_11 := z_6.2.2.2.2.1
    have z_12 := z_6.2.2.2.2.2.1
    have b_13 := g_b hG (a := 77) (i := 11) (lo := 10) (hi := 60) rfl rfl
    have b_14 := g_b hG (a := 77) (i := 12) (lo := 0) (hi := 8) rfl rfl
    have b_15 := g_b hG (a := 77) (i := 13) (lo := 0) (hi := 12) rfl rfl
    refine to_in (pc := 151) rw_189_151 rfl (to_in (pc := 152) rw_189_152 rfl (b_cge (pc := 153) rw_189_153 (A := x2.toInt) (B := n.toInt) rfl rfl (fun h16 => ?_) (fun h16 => ?_)))
    · refine to_rv (pc := 176) rw_189_176 ?_
      exact h N hG F0 (RPK_e i_1 i_2 (by omega))
    · refine to_an (pc := 156) rw_189_156 rfl (s_gR (pc := 157) rw_189_157 hG rfl (v := 94) rfl (to_in (pc := 160) rw_189_160 rfl (s_bal (pc := 161) rw_189_161 hG rfl (n := 150) rfl (A := x2.toInt) rfl (by omega) (by omega) (lo := 0) (hi := 1) rfl rfl (fun v17 w_18 _ _ => ?_))))
      have z_19 := g4 (x2.toInt).toNat (by omega)
      rw [w_18] at z_19
      refine b_ieq (pc := 162) rw_189_162 (A := v17.toInt) rfl (fun h20 => ?_) (fun h20 => ?_)
      · refine s_inc (pc := 170) rw_189_170 (ls2 := fun v => [.ref 77, .int n, .int v, u3]) rfl rfl (fun _ => rfl) (A := x2.toInt) (B := 1) rfl rfl (by omega) (fun v21 e22 => to_go (pc := 173) rw_189_173 ?_)
        exact ih N v21 (u3) hG F0 (by omega) (by omega) (by omega) g4 (RPK_1 i_1 i_2 (by omega) (by omega) (by omega) (by omega)) (by omega) g7 g8 g9 g10 g11 (by omega)
      · refine to_an (pc := 165) rw_189_165 rfl (to_in (pc := 166) rw_189_166 rfl (s_v (pc := 167) rw_189_167 (dp0 hd (by decide)) (ls0 := [.ref 77, .int x2, .null]) rfl (Nat.le_of_ble_eq_true rfl) (Nat.le_of_ble_eq_true rfl) rfl (to_rc rfl rfl rfl (g_o hG rfl)) rfl (E_190 hX (dp1 hd (by decide)) hG (by omega) (by omega) (by omega) g8 g9 g10 g11 q4 (by omega) i_1 (k := x2) (sg := sg) (NN := NN) (nz := nz) (ca := ca) (K := K) (fun M26 hG24 F23 p_25 => ?_))))
        have F27 := FR.c F0 F23 tg_120
        refine s_inc (pc := 170) rw_189_170 (ls2 := fun v => [.ref 77, .int n, .int v, u3]) rfl rfl (fun _ => rfl) (A := x2.toInt) (B := 1) rfl rfl (by omega) (fun v28 e29 => to_go (pc := 173) rw_189_173 ?_)
        have c_30 : M26.2.1 77 28 = (N.2.1 77 28) := (F_n F23 (show ¬ (95 ≤ 77 ∧ 77 ≤ 98) by decide) rfl)
        have t_31 : (M26.2.1 77 28).toInt = (N.2.1 77 28).toInt := congrArg Int32.toInt c_30
        have j_32 := (CWk_f (fun k hk9 => F_nl F23 (show ¬ (95 ≤ 87 ∧ 87 ≤ 98) by decide) rfl) g7)
        have j_33 := (FA_f (tg_116 F23) g8)
        have j_34 := (PLk_f (tg_117 F23) g9)
        have j_35 := (W8_f (tg_118 F23) g10)
        have j_36 := (NTr_f (tg_119 F23) g11)
        exact ih M26 v28 (u3) hG24 F27 (by omega) (by omega) (by omega) (fun k hk9 => (congrArg Int32.toInt (show M26.2.1 94 k = N.2.1 94 k from (F_n F23 (show ¬ (95 ≤ 94 ∧ 94 ≤ 98) by decide) rfl))).trans (g4 k hk9)) (RPK_2 p_25 i_2 (by omega) (by omega) (by omega) (by omega)) (by omega) j_32 j_33 j_34 j_35 j_36 (by omega)
set_option maxRecDepth 4000 in
set_option maxHeartbeats 0 in
theorem U_189_1 {X : mm_X} {d : Nat} {M : mm_M} {Q : Option Value → mm_M → Prop} {n : Int32} {sg : x_S} {NN : x_N} {nz : Int} {ca : Int} (hX : g_X X) (hd : 2 ≤ d) (q1 : 0 ≤ n.toInt) (q2 : n.toInt ≤ 150) (q3 : n.toInt ≤ nz) (q4 : x_vn sg ca NN nz) (q5 : ca ≤ 30) (q6 : (M.2.1 77 28).toInt = ca) (q7 : CWk M sg) (q8 : FA M) (q9 : PLk M sg) (q10 : W8 M) (q11 : NTr M NN nz) (h : ∀ (M1 : mm_M), g_G M1 → FR md_kn M M1 → (KST M1 96 98 97 95 ca sg (x_kn sg NN (n.toInt).toNat)) → Q (none) M1) : ∀ nn9 : Nat, (∀ (N : mm_M) (x2 : Int32) (u3 : Value), g_G N → FR md_kn M N → (0 ≤ x2.toInt) → (x2.toInt ≤ 30) → (x2.toInt ≤ ca) → (∀ k : Nat, (k : Int) < n.toInt → (N.2.1 94 k).toInt = 1 - x_st NN (n.toInt).toNat k) → (GR1 N sg x2.toInt) → ((N.2.1 77 28).toInt = ca) → (CWk N sg) → (FA N) → (PLk N sg) → (W8 N) → (NTr N NN nz) → (30 - x2.toInt) * 100 + 50 < (nn9 : Int) → mm_T X d 188 95 [.ref 77, .int n, .int x2, u3] [] N Q) ∧ (∀ (N : mm_M) (x2 : Int32) (x3 : Int32), g_G N → FR md_kn M N → (0 ≤ x2.toInt) → (x2.toInt ≤ 29) → (x2.toInt < ca) → (0 ≤ x3.toInt) → (x3.toInt ≤ 8) → (∀ k : Nat, (k : Int) < n.toInt → (N.2.1 94 k).toInt = 1 - x_st NN (n.toInt).toNat k) → (GR2 N sg x2.toInt x3.toInt) → ((N.2.1 77 28).toInt = ca) → (CWk N sg) → (FA N) → (PLk N sg) → (W8 N) → (NTr N NN nz) → (30 - x2.toInt) * 100 + 8 - x3.toInt < (nn9 : Int) → mm_T X d 188 119 [.ref 77, .int n, .int x2, .int x3] [] N Q) := by
  intro nn9
  induction nn9 with
  | zero =>
    refine ⟨?_, ?_⟩
    · intro N x2 u3 hG F0 g1 g2 g3 g4 g5 g6 g7 g8 g9 g10 g11 hm
      have b_37 := g_b hG (a := 77) (i := 28) (lo := 0) (hi := 30) rfl rfl
      exfalso; omega
    · intro N x2 x3 hG F0 g1 g2 g3 g4 g5 g6 g7 g8 g9 g10 g11 g12 g13 hm
      have b_38 := g_b hG (a := 77) (i := 28) (lo := 0) (hi := 30) rfl rfl
      exfalso; omega
  | succ nn9 ih =>
    refine ⟨?_, ?_⟩
    · intro N x2 u3 hG F0 g1 g2 g3 g4 g5 g6 g7 g8 g9 g10 g11 hm
      have b_39 := g_b hG (a := 77) (i := 28) (lo := 0) (hi := 30) rfl rfl
      have z_40 := g9.2.1
      have z_41 := g9.2.2.1
      have z_42 := g9.2.2.2.1
      have z_43 := g9.1
      have z_44 := z_43.1
      have z_45 := z_43.2.1
      have z_46 := z_43.2.2.1
      have z_47 := z_43.2.2.2.1
      have z_48 := z_43.2.2.2.2.1
      have z_49 := z_43.2.2.2.2.2.1
      have b_50 := g_b hG (a := 77) (i := 11) (lo := 10) (hi := 60) rfl rfl
      have b_51 := g_b hG (a := 77) (i := 12) (lo := 0) (hi := 8) rfl rfl
      have b_52 := g_b hG (a := 77) (i := 13) (lo := 0) (hi := 12) rfl rfl
      refine to_in (pc := 95) rw_189_95 rfl (to_an (pc := 96) rw_189_96 rfl (tt_gI (pc := 97) rw_189_97 (g_o hG rfl) (v := (N.2.1 77 28)) rfl (b_cge (pc := 100) rw_189_100 (A := x2.toInt) (B := (N.2.1 77 28).toInt) rfl rfl (fun h53 => ?_) (fun h53 => ?_))))
      · refine to_c (pc := 149) rw_189_149 (x := (0 : Int32)) rfl rfl (to_isn (pc := 150) rw_189_150 (ls2 := [.ref 77, .int n, .int (0 : Int32), u3]) rfl rfl ?_)
        have k_54 : (0 : Int32).toInt = 0 := rfl
        exact (U_189_0 (n := n) (sg := sg) (NN := NN) (nz := nz) (ca := ca) hX hd q1 q2 q3 q4 q5 q6 q7 q8 q9 q10 q11 h ((150 - (0 : Int32).toInt).toNat + 1)) N (0 : Int32) (u3) hG F0 (by omega) (by omega) (by omega) g4 (RPK_0 (GR1_e g5 (by omega)) (by omega)) (by omega) g7 g8 g9 g10 g11 (by omega)
      · refine to_an (pc := 103) rw_189_103 rfl (s_gR (pc := 104) rw_189_104 hG rfl (v := 96) rfl (to_in (pc := 107) rw_189_107 rfl (to_cl (pc := 108) rw_189_108 rfl (x := (0 : Int64)) rfl (s_las (pc := 109) rw_189_109 hG rfl (n := 30) rfl (A := x2.toInt) rfl (by omega) (by omega) (fun M56 W55 => ?_)))))
        have hG57 := g_wl hG W55
        have F58 := FR.wl F0 W55 (show 94 ≤ 96 ∧ 96 ≤ 98 by decide)
        refine to_an (pc := 110) rw_189_110 rfl (s_gR (pc := 111) rw_189_111 hG57 rfl (v := 98) rfl (to_in (pc := 114) rw_189_114 rfl (to_c (pc := 115) rw_189_115 (x := (0 : Int32)) rfl rfl (s_ias (pc := 116) rw_189_116 hG57 rfl (n := 30) rfl (A := x2.toInt) rfl (by omega) (by omega) (fun M60 W59 => ?_)))))
        have hG61 := g_wf hG57 W59 rfl rfl (by decide)
        have F62 := FR.w F58 W59 (show 94 ≤ 98 ∧ 98 ≤ 98 by decide)
        refine to_c (pc := 117) rw_189_117 (x := (0 : Int32)) rfl rfl (to_isn (pc := 118) rw_189_118 (ls2 := [.ref 77, .int n, .int x2, .int (0 : Int32)]) rfl rfl ?_)
        have k_63 : (0 : Int32).toInt = 0 := rfl
        have c_64 : M60.2.1 77 28 = (N.2.1 77 28) := (W_n W59 (fun z => absurd z.1 (by decide)) (W_l W55 rfl))
        have t_65 : (M60.2.1 77 28).toInt = (N.2.1 77 28).toInt := congrArg Int32.toInt c_64
        have j_66 := (CWk_f (fun k hk9 => W_j W59 rfl) (CWk_f (fun k hk9 => L_n W55 (by omega) rfl) g7))
        have j_67 := (FA_f (fun a i z => W_n W59 (tg_121 a i _ z) rfl) (FA_f (fun a i z => W_l W55 rfl) g8))
        have j_68 := (PLk_f (fun a i z => W_n W59 (tg_122 a i _ z) rfl) (PLk_f (fun a i z => W_l W55 rfl) g9))
        have j_69 := (W8_f (fun a i z => W_n W59 (tg_123 a i _ z) rfl) (W8_f (fun a i z => W_l W55 rfl) g10))
        have j_70 := (NTr_f (fun a i z => W_n W59 (tg_124 a i _ z) rfl) (NTr_f (fun a i z => W_l W55 rfl) g11))
        exact ih.2 M60 x2 (0 : Int32) hG61 F62 (by omega) (by omega) (by omega) (by omega) (by omega) (fun k hk9 => (congrArg Int32.toInt (show M60.2.1 94 k = N.2.1 94 k from (W_n W59 (by omega) (W_l W55 rfl)))).trans (g4 k hk9)) (GR2_0 g5 W55 W59 (by omega) (by omega) (by omega)) (by omega) j_66 j_67 j_68 j_69 j_70 (by omega)
    · intro N x2 x3 hG F0 g1 g2 g3 g4 g5 g6 g7 g8 g9 g10 g11 g12 g13 hm
      have b_71 := g_b hG (a := 77) (i := 28) (lo := 0) (hi := 30) rfl rfl
      have z_72 := g11.2.1
      have z_73 := g11.2.2.1
      have z_74 := g11.2.2.2.1
      have z_75 := g11.1
      have z_76 := z_75.1
      have z_77 := z_75.2.1
      have z_78 := z_75.2.2.1
      have z_79 := z_75.2.2.2.1
      have z_80 := z_75.2.2.2.2.1
      have z_81 := z_75.2.2.2.2.2.1
      have b_82 := g_b hG (a := 77) (i := 11) (lo := 10) (hi := 60) rfl rfl
      have b_83 := g_b hG (a := 77) (i := 12) (lo := 0) (hi := 8) rfl rfl
      have b_84 := g_b hG (a := 77) (i := 13) (lo := 0) (hi := 12) rfl rfl
      refine to_in (pc := 119) rw_189_119 rfl (to_c (pc := 120) rw_189_120 (x := (8 : Int32)) rfl rfl (b_cge (pc := 122) rw_189_122 (A := x3.toInt) (B := 8) rfl rfl (fun h85 => ?_) (fun h85 => ?_)))
      · refine s_inc (pc := 143) rw_189_143 (ls2 := fun v => [.ref 77, .int n, .int v, .int x3]) rfl rfl (fun _ => rfl) (A := x2.toInt) (B := 1) rfl rfl (by omega) (fun v86 e87 => to_go (pc := 146) rw_189_146 ?_)
        exact ih.1 N v86 (.int x3) hG F0 (by omega) (by omega) (by omega) g6 (GR1_s g7 (by omega) (by omega) (by omega)) (by omega) g9 g10 g11 g12 g13 (by omega)
      · refine to_an (pc := 125) rw_189_125 rfl (s_gR (pc := 126) rw_189_126 hG rfl (v := 97) rfl (to_c (pc := 129) rw_189_129 (x := (8 : Int32)) rfl rfl (to_in (pc := 131) rw_189_131 rfl (s_mul (pc := 132) rw_189_132 (A := 8) (B := x2.toInt) rfl rfl (by omega) (fun v88 e89 => to_in (pc := 133) rw_189_133 rfl (s_add (pc := 134) rw_189_134 (A := v88.toInt) (B := x3.toInt) rfl rfl (by omega) (fun v90 e91 => to_c (pc := 135) rw_189_135 (x := (-1 : Int32)) rfl rfl (s_ias (pc := 136) rw_189_136 hG rfl (n := 240) rfl (A := v90.toInt) rfl (by omega) (by omega) (fun M93 W92 => ?_)))))))))
        have hG94 := g_wf hG W92 rfl rfl (by decide)
        have F95 := FR.w F0 W92 (show 94 ≤ 97 ∧ 97 ≤ 98 by decide)
        refine s_inc (pc := 137) rw_189_137 (ls2 := fun v => [.ref 77, .int n, .int x2, .int v]) rfl rfl (fun _ => rfl) (A := x3.toInt) (B := 1) rfl rfl (by omega) (fun v96 e97 => to_go (pc := 140) rw_189_140 ?_)
        have c_98 : M93.2.1 77 28 = (N.2.1 77 28) := (W_n W92 (fun z => absurd z.1 (by decide)) rfl)
        have t_99 : (M93.2.1 77 28).toInt = (N.2.1 77 28).toInt := congrArg Int32.toInt c_98
        have j_100 := (CWk_f (fun k hk9 => W_j W92 rfl) g9)
        have j_101 := (FA_f (fun a i z => W_n W92 (tg_125 a i _ z) rfl) g10)
        have j_102 := (PLk_f (fun a i z => W_n W92 (tg_126 a i _ z) rfl) g11)
        have j_103 := (W8_f (fun a i z => W_n W92 (tg_127 a i _ z) rfl) g12)
        have j_104 := (NTr_f (fun a i z => W_n W92 (tg_128 a i _ z) rfl) g13)
        exact ih.2 M93 x2 v96 hG94 F95 (by omega) (by omega) (by omega) (by omega) (by omega) (fun k hk9 => (congrArg Int32.toInt (show M93.2.1 94 k = N.2.1 94 k from (W_n W92 (by omega) rfl))).trans (g6 k hk9)) (GR2_s g7 W92 (by omega) (by omega) (by omega) (by omega) (by omega)) (by omega) j_100 j_101 j_102 j_103 j_104 (by omega)
set_option maxRecDepth 4000 in
set_option maxHeartbeats 0 in
theorem U_189_2 {X : mm_X} {d : Nat} {M : mm_M} {Q : Option Value → mm_M → Prop} {n : Int32} {sg : x_S} {NN : x_N} {nz : Int} {ca : Int} (hX : g_X X) (hd : 2 ≤ d) (q1 : 0 ≤ n.toInt) (q2 : n.toInt ≤ 150) (q3 : n.toInt ≤ nz) (q4 : x_vn sg ca NN nz) (q5 : ca ≤ 30) (q6 : (M.2.1 77 28).toInt = ca) (q7 : CWk M sg) (q8 : FA M) (q9 : PLk M sg) (q10 : W8 M) (q11 : NTr M NN nz) (h : ∀ (M1 : mm_M), g_G M1 → FR md_kn M M1 → (KST M1 96 98 97 95 ca sg (x_kn sg NN (n.toInt).toNat)) → Q (none) M1) : ∀ nn9 : Nat, (∀ (N : mm_M) (x2 : Int32) (u3 : Value), g_G N → FR md_kn M N → (0 ≤ x2.toInt) → (x2.toInt ≤ 12) → (x2.toInt ≤ sg.2.2.1) → (∀ k : Nat, (k : Int) < n.toInt → (N.2.1 94 k).toInt = 1 - x_st NN (n.toInt).toNat k) → (GR0 N sg x2.toInt) → ((N.2.1 77 28).toInt = ca) → (CWk N sg) → (FA N) → (PLk N sg) → (W8 N) → (NTr N NN nz) → 12 - x2.toInt < (nn9 : Int) → mm_T X d 188 67 [.ref 77, .int n, .int x2, u3] [] N Q) := by
  intro nn9
  induction nn9 with
  | zero =>
    intro N x2 u3 hG F0 g1 g2 g3 g4 g5 g6 g7 g8 g9 g10 g11 hm
    have b_105 := g_b hG (a := 77) (i := 28) (lo := 0) (hi := 30) rfl rfl
    exfalso; omega
  | succ nn9 ih =>
    intro N x2 u3 hG F0 g1 g2 g3 g4 g5 g6 g7 g8 g9 g10 g11 hm
    have b_106 := g_b hG (a := 77) (i := 28) (lo := 0) (hi := 30) rfl rfl
    have z_107 := g9.2.1
    have z_108 := g9.2.2.1
    have z_109 := g9.2.2.2.1
    have z_110 := g9.1
    have z_111 := z_110.1
    have z_112 := z_110.2.1
    have z_113 := z_110.2.2.1
    have z_114 := z_110.2.2.2.1
    have z_115 := z_110.2.2.2.2.1
    have z_116 := z_110.2.2.2.2.2.1
    have b_117 := g_b hG (a := 77) (i := 11) (lo := 10) (hi := 60) rfl rfl
    have b_118 := g_b hG (a := 77) (i := 12) (lo := 0) (hi := 8) rfl rfl
    have b_119 := g_b hG (a := 77) (i := 13) (lo := 0) (hi := 12) rfl rfl
    refine to_in (pc := 67) rw_189_67 rfl (to_an (pc := 68) rw_189_68 rfl (tt_gI (pc := 69) rw_189_69 (g_o hG rfl) (v := (N.2.1 77 13)) rfl (b_cge (pc := 72) rw_189_72 (A := x2.toInt) (B := (N.2.1 77 13).toInt) rfl rfl (fun h120 => ?_) (fun h120 => ?_))))
    · refine to_c (pc := 93) rw_189_93 (x := (0 : Int32)) rfl rfl (to_isn (pc := 94) rw_189_94 (ls2 := [.ref 77, .int n, .int (0 : Int32), u3]) rfl rfl ?_)
      have k_121 : (0 : Int32).toInt = 0 := rfl
      exact (U_189_1 (n := n) (sg := sg) (NN := NN) (nz := nz) (ca := ca) hX hd q1 q2 q3 q4 q5 q6 q7 q8 q9 q10 q11 h (((30 - (0 : Int32).toInt) * 100 + 50).toNat + 1)).1 N (0 : Int32) (u3) hG F0 (by omega) (by omega) (by omega) g4 (GR1_0 g5 (by omega) (by omega)) (by omega) g7 g8 g9 g10 g11 (by omega)
    · refine to_an (pc := 75) rw_189_75 rfl (s_gR (pc := 76) rw_189_76 hG rfl (v := 95) rfl (to_in (pc := 79) rw_189_79 rfl (to_an (pc := 80) rw_189_80 rfl (s_gR (pc := 81) rw_189_81 hG rfl (v := 87) rfl (to_in (pc := 84) rw_189_84 rfl (s_lalE (pc := 85) rw_189_85 hG rfl (n := 24) rfl (A := x2.toInt) rfl (by omega) (by omega) (fun l122 w_123 => s_las (pc := 86) rw_189_86 hG rfl (n := 12) rfl (A := x2.toInt) rfl (by omega) (by omega) (fun M125 W124 => ?_))))))))
      have hG126 := g_wl hG W124
      have F127 := FR.wl F0 W124 (show 94 ≤ 95 ∧ 95 ≤ 98 by decide)
      refine s_inc (pc := 87) rw_189_87 (ls2 := fun v => [.ref 77, .int n, .int v, u3]) rfl rfl (fun _ => rfl) (A := x2.toInt) (B := 1) rfl rfl (by omega) (fun v128 e129 => to_go (pc := 90) rw_189_90 ?_)
      have c_130 : M125.2.1 77 28 = (N.2.1 77 28) := (W_l W124 rfl)
      have t_131 : (M125.2.1 77 28).toInt = (N.2.1 77 28).toInt := congrArg Int32.toInt c_130
      have j_132 := (CWk_f (fun k hk9 => L_n W124 (by omega) rfl) g7)
      have j_133 := (FA_f (fun a i z => W_l W124 rfl) g8)
      have j_134 := (PLk_f (fun a i z => W_l W124 rfl) g9)
      have j_135 := (W8_f (fun a i z => W_l W124 rfl) g10)
      have j_136 := (NTr_f (fun a i z => W_l W124 rfl) g11)
      exact ih M125 v128 (u3) hG126 F127 (by omega) (by omega) (by omega) (fun k hk9 => (congrArg Int32.toInt (show M125.2.1 94 k = N.2.1 94 k from (W_l W124 rfl))).trans (g4 k hk9)) (GR0_s g5 g7 w_123 W124 (by omega) (by omega) (by omega) (by omega)) (by omega) j_132 j_133 j_134 j_135 j_136 (by omega)
set_option maxRecDepth 4000 in
set_option maxHeartbeats 0 in
theorem U_189_3 {X : mm_X} {d : Nat} {M : mm_M} {Q : Option Value → mm_M → Prop} {n : Int32} {sg : x_S} {NN : x_N} {nz : Int} {ca : Int} (hX : g_X X) (hd : 2 ≤ d) (q1 : 0 ≤ n.toInt) (q2 : n.toInt ≤ 150) (q3 : n.toInt ≤ nz) (q4 : x_vn sg ca NN nz) (q5 : ca ≤ 30) (q6 : (M.2.1 77 28).toInt = ca) (q7 : CWk M sg) (q8 : FA M) (q9 : PLk M sg) (q10 : W8 M) (q11 : NTr M NN nz) (h : ∀ (M1 : mm_M), g_G M1 → FR md_kn M M1 → (KST M1 96 98 97 95 ca sg (x_kn sg NN (n.toInt).toNat)) → Q (none) M1) : ∀ nn9 : Nat, (∀ (N : mm_M) (x2 : Int32) (u3 : Value), g_G N → FR md_kn M N → (-1 ≤ x2.toInt) → (x2.toInt ≤ 149) → (x2.toInt < n.toInt) → (SQr N NN n.toInt (x2.toInt + 1)) → ((N.2.1 77 28).toInt = ca) → (CWk N sg) → (FA N) → (PLk N sg) → (W8 N) → (NTr N NN nz) → x2.toInt + 1 < (nn9 : Int) → mm_T X d 188 24 [.ref 77, .int n, .int x2, u3] [] N Q) := by
  intro nn9
  induction nn9 with
  | zero =>
    intro N x2 u3 hG F0 g1 g2 g3 g4 g5 g6 g7 g8 g9 g10 hm
    have b_137 := g_b hG (a := 77) (i := 28) (lo := 0) (hi := 30) rfl rfl
    exfalso; omega
  | succ nn9 ih =>
    intro N x2 u3 hG F0 g1 g2 g3 g4 g5 g6 g7 g8 g9 g10 hm
    have b_138 := g_b hG (a := 77) (i := 28) (lo := 0) (hi := 30) rfl rfl
    have z_139 := g8.2.1
    have z_140 := g8.2.2.1
    have z_141 := g8.2.2.2.1
    have z_142 := g8.1
    have z_143 := z_142.1
    have z_144 := z_142.2.1
    have z_145 := z_142.2.2.1
    have z_146 := z_142.2.2.2.1
    have z_147 := z_142.2.2.2.2.1
    have z_148 := z_142.2.2.2.2.2.1
    have b_149 := g_b hG (a := 77) (i := 11) (lo := 10) (hi := 60) rfl rfl
    have b_150 := g_b hG (a := 77) (i := 12) (lo := 0) (hi := 8) rfl rfl
    have b_151 := g_b hG (a := 77) (i := 13) (lo := 0) (hi := 12) rfl rfl
    refine to_in (pc := 24) rw_189_24 rfl (b_ilt (pc := 25) rw_189_25 (A := x2.toInt) rfl (fun h152 => ?_) (fun h152 => ?_))
    · refine to_c (pc := 65) rw_189_65 (x := (0 : Int32)) rfl rfl (to_isn (pc := 66) rw_189_66 (ls2 := [.ref 77, .int n, .int (0 : Int32), u3]) rfl rfl ?_)
      have k_153 : (0 : Int32).toInt = 0 := rfl
      exact (U_189_2 (n := n) (sg := sg) (NN := NN) (nz := nz) (ca := ca) hX hd q1 q2 q3 q4 q5 q6 q7 q8 q9 q10 q11 h ((12 - (0 : Int32).toInt).toNat + 1)) N (0 : Int32) (u3) hG F0 (by omega) (by omega) (by omega) (SQr_e g4 (by omega)) (GR0_0 (by omega)) (by omega) g6 g7 g8 g9 g10 (by omega)
    · refine to_an (pc := 28) rw_189_28 rfl (s_gR (pc := 29) rw_189_29 hG rfl (v := 90) rfl (to_in (pc := 32) rw_189_32 rfl (s_ial (pc := 33) rw_189_33 hG rfl (n := 150) rfl rfl (A := x2.toInt) rfl (by omega) (by omega) (lo := 0) (hi := 5) rfl rfl (fun v154 w_155 _ _ => ?_))))
      have nl_156 := NTr_0 g10 (A := x2.toInt) (by omega) (by omega) w_155
      have z_157 := congrArg Int32.toInt nl_156
      refine to_c (pc := 34) rw_189_34 (x := (5 : Int32)) rfl rfl (b_cne (pc := 35) rw_189_35 (A := v154.toInt) (B := 5) rfl rfl (fun h158 => ?_) (fun h158 => ?_))
      · refine s_inc (pc := 59) rw_189_59 (ls2 := fun v => [.ref 77, .int n, .int v, u3]) rfl rfl (fun _ => rfl) (A := x2.toInt) (B := -1) rfl rfl (by omega) (fun v159 e160 => to_go (pc := 62) rw_189_62 ?_)
        exact ih N v159 (u3) hG F0 (by omega) (by omega) (by omega) (SQr_1 g4 (by omega) rfl (by omega) (by omega)) (by omega) g6 g7 g8 g9 g10 (by omega)
      · refine to_an (pc := 38) rw_189_38 rfl (s_gR (pc := 39) rw_189_39 hG rfl (v := 94) rfl (to_in (pc := 42) rw_189_42 rfl (s_bal (pc := 43) rw_189_43 hG rfl (n := 150) rfl (A := x2.toInt) rfl (by omega) (by omega) (lo := 0) (hi := 1) rfl rfl (fun v161 w_162 _ _ => b_ieq (pc := 44) rw_189_44 (A := v161.toInt) rfl (fun h163 => ?_) (fun h163 => ?_)))))
        · refine s_inc (pc := 59) rw_189_59 (ls2 := fun v => [.ref 77, .int n, .int v, u3]) rfl rfl (fun _ => rfl) (A := x2.toInt) (B := -1) rfl rfl (by omega) (fun v164 e165 => to_go (pc := 62) rw_189_62 ?_)
          exact ih N v164 (u3) hG F0 (by omega) (by omega) (by omega) (SQr_2 g4 (by omega) (by omega) rfl (by omega) w_162 (by omega)) (by omega) g6 g7 g8 g9 g10 (by omega)
        · refine to_an (pc := 47) rw_189_47 rfl (s_gR (pc := 48) rw_189_48 hG rfl (v := 94) rfl (to_an (pc := 51) rw_189_51 rfl (s_gR (pc := 52) rw_189_52 hG rfl (v := 91) rfl (to_in (pc := 55) rw_189_55 rfl (s_ial (pc := 56) rw_189_56 hG rfl (n := 150) rfl rfl (A := x2.toInt) rfl (by omega) (by omega) (lo := 0) (hi := 149) rfl rfl (fun v166 w_167 _ _ => ?_))))))
          have nl_168 := NTr_1 g10 (A := x2.toInt) (by omega) (by omega) w_167
          have z_169 := congrArg Int32.toInt nl_168
          refine to_c (pc := 57) rw_189_57 (x := (0 : Int32)) rfl rfl (s_zas (pc := 58) rw_189_58 hG rfl (n := 150) rfl (A := v166.toInt) rfl (by omega) (by omega) (B := 0) rfl (by omega) (fun M171 W170 => ?_))
          have hG172 := g_w hG W170 (A := 0) rfl (lo := 0) (hi := 1) rfl rfl (by omega) (by decide)
          have F173 := FR.w F0 W170 (show 94 ≤ 94 ∧ 94 ≤ 98 by decide)
          refine s_inc (pc := 59) rw_189_59 (ls2 := fun v => [.ref 77, .int n, .int v, u3]) rfl rfl (fun _ => rfl) (A := x2.toInt) (B := -1) rfl rfl (by omega) (fun v174 e175 => to_go (pc := 62) rw_189_62 ?_)
          have c_176 : M171.2.1 77 28 = (N.2.1 77 28) := (W_n W170 (fun z => absurd z.1 (by decide)) rfl)
          have t_177 : (M171.2.1 77 28).toInt = (N.2.1 77 28).toInt := congrArg Int32.toInt c_176
          have j_178 := (CWk_f (fun k hk9 => W_j W170 rfl) g6)
          have j_179 := (FA_f (fun a i z => W_n W170 (tg_129 a i _ z) rfl) g7)
          have j_180 := (PLk_f (fun a i z => W_n W170 (tg_130 a i _ z) rfl) g8)
          have j_181 := (W8_f (fun a i z => W_n W170 (tg_131 a i _ z) rfl) g9)
          have j_182 := (NTr_f (fun a i z => W_n W170 (tg_132 a i _ z) rfl) g10)
          exact ih M171 v174 (u3) hG172 F173 (by omega) (by omega) (by omega) (SQr_3 g4 (by omega) (by omega) rfl (by omega) w_162 (by omega) (by omega) W170 (by omega)) (by omega) j_178 j_179 j_180 j_181 j_182 (by omega)
set_option maxRecDepth 4000 in
set_option maxHeartbeats 0 in
theorem U_189_4 {X : mm_X} {d : Nat} {M : mm_M} {Q : Option Value → mm_M → Prop} {n : Int32} {sg : x_S} {NN : x_N} {nz : Int} {ca : Int} (hX : g_X X) (hd : 2 ≤ d) (q1 : 0 ≤ n.toInt) (q2 : n.toInt ≤ 150) (q3 : n.toInt ≤ nz) (q4 : x_vn sg ca NN nz) (q5 : ca ≤ 30) (q6 : (M.2.1 77 28).toInt = ca) (q7 : CWk M sg) (q8 : FA M) (q9 : PLk M sg) (q10 : W8 M) (q11 : NTr M NN nz) (h : ∀ (M1 : mm_M), g_G M1 → FR md_kn M M1 → (KST M1 96 98 97 95 ca sg (x_kn sg NN (n.toInt).toNat)) → Q (none) M1) : ∀ nn9 : Nat, (∀ (N : mm_M) (x2 : Int32) (u3 : Value), g_G N → FR md_kn M N → (0 ≤ x2.toInt) → (x2.toInt ≤ 150) → (x2.toInt ≤ n.toInt) → (∀ k : Nat, (k : Int) < x2.toInt → N.2.1 94 k = 1) → ((N.2.1 77 28).toInt = ca) → (CWk N sg) → (FA N) → (PLk N sg) → (W8 N) → (NTr N NN nz) → 150 - x2.toInt < (nn9 : Int) → mm_T X d 188 2 [.ref 77, .int n, .int x2, u3] [] N Q) := by
  intro nn9
  induction nn9 with
  | zero =>
    intro N x2 u3 hG F0 g1 g2 g3 g4 g5 g6 g7 g8 g9 g10 hm
    have b_183 := g_b hG (a := 77) (i := 28) (lo := 0) (hi := 30) rfl rfl
    exfalso; omega
  | succ nn9 ih =>
    intro N x2 u3 hG F0 g1 g2 g3 g4 g5 g6 g7 g8 g9 g10 hm
    have b_184 := g_b hG (a := 77) (i := 28) (lo := 0) (hi := 30) rfl rfl
    have z_185 := g8.2.1
    have z_186 := g8.2.2.1
    have z_187 := g8.2.2.2.1
    have z_188 := g8.1
    have z_189 := z_188.1
    have z_190 := z_188.2.1
    have z_191 := z_188.2.2.1
    have z_192 := z_188.2.2.2.1
    have z_193 := z_188.2.2.2.2.1
    have z_194 := z_188.2.2.2.2.2.1
    have b_195 := g_b hG (a := 77) (i := 11) (lo := 10) (hi := 60) rfl rfl
    have b_196 := g_b hG (a := 77) (i := 12) (lo := 0) (hi := 8) rfl rfl
    have b_197 := g_b hG (a := 77) (i := 13) (lo := 0) (hi := 12) rfl rfl
    refine to_in (pc := 2) rw_189_2 rfl (to_in (pc := 3) rw_189_3 rfl (b_cge (pc := 4) rw_189_4 (A := x2.toInt) (B := n.toInt) rfl rfl (fun h198 => ?_) (fun h198 => ?_)))
    · refine to_in (pc := 20) rw_189_20 rfl (to_c (pc := 21) rw_189_21 (x := (1 : Int32)) rfl rfl (s_sub (pc := 22) rw_189_22 (A := n.toInt) (B := 1) rfl rfl (by omega) (fun v199 e200 => to_isn (pc := 23) rw_189_23 (ls2 := [.ref 77, .int n, .int v199, u3]) rfl rfl ?_)))
      exact (U_189_3 (n := n) (sg := sg) (NN := NN) (nz := nz) (ca := ca) hX hd q1 q2 q3 q4 q5 q6 q7 q8 q9 q10 q11 h ((v199.toInt + 1).toNat + 1)) N v199 (u3) hG F0 (by omega) (by omega) (by omega) (SQr_0 (fun k hk9 => g4 k (by omega)) (by omega)) (by omega) g6 g7 g8 g9 g10 (by omega)
    · refine to_an (pc := 7) rw_189_7 rfl (s_gR (pc := 8) rw_189_8 hG rfl (v := 94) rfl (to_in (pc := 11) rw_189_11 rfl (to_c (pc := 12) rw_189_12 (x := (1 : Int32)) rfl rfl (s_zas (pc := 13) rw_189_13 hG rfl (n := 150) rfl (A := x2.toInt) rfl (by omega) (by omega) (B := 1) rfl (by omega) (fun M202 W201 => ?_)))))
      have hG203 := g_w hG W201 (A := 1) rfl (lo := 0) (hi := 1) rfl rfl (by omega) (by decide)
      have F204 := FR.w F0 W201 (show 94 ≤ 94 ∧ 94 ≤ 98 by decide)
      refine s_inc (pc := 14) rw_189_14 (ls2 := fun v => [.ref 77, .int n, .int v, u3]) rfl rfl (fun _ => rfl) (A := x2.toInt) (B := 1) rfl rfl (by omega) (fun v205 e206 => to_go (pc := 17) rw_189_17 ?_)
      have c_207 : M202.2.1 77 28 = (N.2.1 77 28) := (W_n W201 (fun z => absurd z.1 (by decide)) rfl)
      have t_208 : (M202.2.1 77 28).toInt = (N.2.1 77 28).toInt := congrArg Int32.toInt c_207
      have j_209 := (CWk_f (fun k hk9 => W_j W201 rfl) g6)
      have j_210 := (FA_f (fun a i z => W_n W201 (tg_129 a i _ z) rfl) g7)
      have j_211 := (PLk_f (fun a i z => W_n W201 (tg_130 a i _ z) rfl) g8)
      have j_212 := (W8_f (fun a i z => W_n W201 (tg_131 a i _ z) rfl) g9)
      have j_213 := (NTr_f (fun a i z => W_n W201 (tg_132 a i _ z) rfl) g10)
      exact ih M202 v205 (u3) hG203 F204 (by omega) (by omega) (by omega) (fill_s g4 W201 (by omega) (by omega) (by omega)) (by omega) j_209 j_210 j_211 j_212 j_213 (by omega)
set_option maxRecDepth 4000 in
set_option maxHeartbeats 0 in
theorem E_189 {X : mm_X} {d : Nat} {M : mm_M} {Q : Option Value → mm_M → Prop} {n : Int32} {sg : x_S} {NN : x_N} {nz : Int} {ca : Int} (hX : g_X X) (hd : 2 ≤ d) (hG : g_G M) (q1 : 0 ≤ n.toInt) (q2 : n.toInt ≤ 150) (q3 : n.toInt ≤ nz) (q4 : x_vn sg ca NN nz) (q5 : ca ≤ 30) (q6 : (M.2.1 77 28).toInt = ca) (q7 : CWk M sg) (q8 : FA M) (q9 : PLk M sg) (q10 : W8 M) (q11 : NTr M NN nz) (h : ∀ (M1 : mm_M), g_G M1 → FR md_kn M M1 → (KST M1 96 98 97 95 ca sg (x_kn sg NN (n.toInt).toNat)) → Q (none) M1) : mm_T X d 188 0 [.ref 77, .int n, .null, .null] [] M Q := by
  have F0 : FR md_kn M M := FR.rf
  have b_214 := g_b hG (a := 77) (i := 28) (lo := 0) (hi := 30) rfl rfl
  have z_215 := q9.2.1
  have z_216 := q9.2.2.1
  have z_217 := q9.2.2.2.1
  have z_218 := q9.1
  have z_219 := z_218.1
  have z_220 := z_218.2.1
  have z_221 := z_218.2.2.1
  have z_222 := z_218.2.2.2.1
  have z_223 := z_218.2.2.2.2.1
  have z_224 := z_218.2.2.2.2.2.1
  have b_225 := g_b hG (a := 77) (i := 11) (lo := 10) (hi := 60) rfl rfl
  have b_226 := g_b hG (a := 77) (i := 12) (lo := 0) (hi := 8) rfl rfl
  have b_227 := g_b hG (a := 77) (i := 13) (lo := 0) (hi := 12) rfl rfl
  refine to_c (pc := 0) rw_189_0 (x := (0 : Int32)) rfl rfl (to_isn (pc := 1) rw_189_1 (ls2 := [.ref 77, .int n, .int (0 : Int32), .null]) rfl rfl ?_)
  have k_228 : (0 : Int32).toInt = 0 := rfl
  exact (U_189_4 (n := n) (sg := sg) (NN := NN) (nz := nz) (ca := ca) hX hd q1 q2 q3 q4 q5 q6 q7 q8 q9 q10 q11 h ((150 - (0 : Int32).toInt).toNat + 1)) M (0 : Int32) (.null) hG F0 (by omega) (by omega) (by omega) (fun k hk9 => by exfalso; rw [show (0 : Int32).toInt = 0 from rfl] at hk9; omega) (by omega) q7 q8 q9 q10 q11 (by omega)
