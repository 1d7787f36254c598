theorem tg_358 : ∀ a i : Nat, (a < 0) → (a = 123) := fun a i z => by omega
theorem tg_359 : ∀ a i : Nat, (a = 121 ∨ a = 122) → (a = 77 ∧ i = 2 ∨ 94 ≤ a ∧ a ≤ 98 ∨ 121 ≤ a ∧ a ≤ 124) := fun a i z => by omega
theorem tg_360 : ∀ a i : Nat, (a = 123) → (a = 77 ∧ i = 2 ∨ 94 ≤ a ∧ a ≤ 98 ∨ 121 ≤ a ∧ a ≤ 124) := fun a i z => by omega
theorem tg_361 : ∀ a i : Nat, (a < 0) → (a = 77 ∧ i = 2 ∨ 94 ≤ a ∧ a ≤ 98 ∨ 121 ≤ a ∧ a ≤ 124) := fun a i z => by omega
theorem tg_362 : ∀ a i : Nat, (94 ≤ a ∧ a ≤ 98) → (a = 77 ∧ i = 2 ∨ 94 ≤ a ∧ a ≤ 98 ∨ 121 ≤ a ∧ a ≤ 124) := fun a i z => by omega
set_option maxRecDepth 4000 in
set_option maxHeartbeats 0 in
theorem T_244_0 {X : mm_X} {d : Nat} {M : mm_M} {Q : Option Value → mm_M → Prop} {n : Int32} {l : Int32} (hX : g_X X) (hd : 2 ≤ d) (q1 : 0 ≤ n.toInt) (q2 : n.toInt ≤ 6) (q3 : 1 ≤ l.toInt) (q4 : l.toInt ≤ 6) (h : ∀ (r : Int32) (M1 : mm_M), g_G M1 → FR md_ro M M1 → (0 ≤ r.toInt) → (r.toInt ≤ 1) → (r.toInt = 1 → NV M l.toInt (n.toInt).toNat + 1 ≤ NV M1 l.toInt (n.toInt).toNat) → Q (some (.int r)) M1) : ∀ nn9 : Nat, (∀ (N : mm_M) (u3 : Value) (x4 : Int32) (x5 : Int32) (u6 : Value) (u7 : Value) (u8 : Value), g_G N → FR md_ro M N → (0 ≤ x5.toInt) → (x5.toInt ≤ 46656) → (1 ≤ x4.toInt) → (x4.toInt ≤ 46656) → (NV M l.toInt (n.toInt).toNat + 1 ≤ x5.toInt) → (x4.toInt = (l.toInt) ^ (n.toInt).toNat) → (46657 - x5.toInt) * 100 + 50 < (nn9 : Int) → mm_T X d 243 58 [.ref 77, .int n, .int l, u3, .int x4, .int x5, u6, u7, u8] [] N Q) ∧ (∀ (N : mm_M) (u3 : Value) (x4 : Int32) (x5 : Int32) (x6 : Int32) (x7 : Int32) (x8 : Int32), g_G N → FR md_ro M N → (0 ≤ x5.toInt) → (x5.toInt ≤ 46655) → (x5.toInt < x4.toInt) → (1 ≤ x4.toInt) → (x4.toInt ≤ 46656) → (-1 ≤ x8.toInt) → (x8.toInt ≤ 5) → (x8.toInt < n.toInt) → (0 ≤ x6.toInt) → (x6.toInt ≤ 46656) → (NV M l.toInt (n.toInt).toNat + 1 ≤ x5.toInt) → (x4.toInt = (l.toInt) ^ (n.toInt).toNat) → (x5.toInt = x6.toInt * (l.toInt) ^ ((n.toInt).toNat - (x8.toInt + 1).toNat) + DV N l.toInt (x8.toInt + 1).toNat ((n.toInt).toNat - (x8.toInt + 1).toNat)) → (46657 - x5.toInt) * 100 + 10 + x8.toInt < (nn9 : Int) → mm_T X d 243 77 [.ref 77, .int n, .int l, u3, .int x4, .int x5, .int x6, .int x7, .int x8] [] N Q) := by
  intro nn9
  induction nn9 with
  | zero =>
    refine ⟨?_, ?_⟩
    · intro N u3 x4 x5 u6 u7 u8 hG F0 g1 g2 g3 g4 g5 g6 hm
      exfalso; omega
    · intro N u3 x4 x5 x6 x7 x8 hG F0 g1 g2 g3 g4 g5 g6 g7 g8 g9 g10 g11 g12 g13 hm
      exfalso; omega
  | succ nn9 ih =>
    refine ⟨?_, ?_⟩
    · intro N u3 x4 x5 u6 u7 u8 hG F0 g1 g2 g3 g4 g5 g6 hm
      refine to_i (pc := 58) rw_244_58 rfl (to_i (pc := 60) rw_244_60 rfl (b_cge (pc := 62) rw_244_62 (A := x5.toInt) (B := x4.toInt) rfl rfl (fun h1 => ?_) (fun h1 => ?_)))
      · refine to_c (pc := 137) rw_244_137 (x := (0 : Int32)) rfl rfl (s_r1 (pc := 138) rw_244_138 (A := 0) rfl (by decide) ?_)
        have k_2 : (0 : Int32).toInt = 0 := rfl
        exact h (0 : Int32) N hG F0 (by decide) (by decide) (fun z => absurd z (by omega))
      · refine to_i (pc := 65) rw_244_65 rfl (to_is (pc := 67) rw_244_67 (ls2 := [.ref 77, .int n, .int l, u3, .int x4, .int x5, .int x5, u7, u8]) rfl rfl (to_c (pc := 69) rw_244_69 (x := (0 : Int32)) rfl rfl (to_is (pc := 70) rw_244_70 (ls2 := [.ref 77, .int n, .int l, u3, .int x4, .int x5, .int x5, .int (0 : Int32), u8]) rfl rfl (to_in (pc := 72) rw_244_72 rfl (to_c (pc := 73) rw_244_73 (x := (1 : Int32)) rfl rfl (s_sub (pc := 74) rw_244_74 (A := n.toInt) (B := 1) rfl rfl (by omega) (fun v3 e4 => to_is (pc := 75) rw_244_75 (ls2 := [.ref 77, .int n, .int l, u3, .int x4, .int x5, .int x5, .int (0 : Int32), .int v3]) rfl rfl ?_)))))))
        have k_5 : (0 : Int32).toInt = 0 := rfl
        have s_6 := g5
        exact ih.2 N (u3) x4 x5 x5 (0 : Int32) v3 hG F0 (by omega) (by omega) (by omega) (by omega) (by omega) (by omega) (by omega) (by omega) (by omega) (by omega) (by omega) g6 (by rw [show (n.toInt).toNat - (v3.toInt + 1).toNat = 0 by omega, Int.pow_zero]; show _ = _ * 1 + 0; omega) (by omega)
    · intro N u3 x4 x5 x6 x7 x8 hG F0 g1 g2 g3 g4 g5 g6 g7 g8 g9 g10 g11 g12 g13 hm
      refine to_i (pc := 77) rw_244_77 rfl (b_ilt (pc := 79) rw_244_79 (A := x8.toInt) rfl (fun h7 => ?_) (fun h7 => ?_))
      · refine to_i (pc := 119) rw_244_119 rfl (s_i2l (pc := 121) rw_244_121 (fun l8 e9 => s_s (pc := 122) rw_244_122 (dp0 hd (by decide)) (ls0 := [.long l8, .null, .null, .null]) rfl (Nat.le_of_ble_eq_true rfl) (Nat.le_of_ble_eq_true rfl) rfl (to_rcs rfl rfl) rfl (C_151 hX (dp1 hd (by decide)) hG (x := l8) (fun r10 M15 hG12 F11 p_13 p_14 => ?_))))
        have F16 := FR.c F0 F11 tg_358
        refine to_in (pc := 125) rw_244_125 rfl (b_cne (pc := 126) rw_244_126 (A := r10.toInt) (B := n.toInt) rfl rfl (fun h17 => ?_) (fun h17 => ?_))
        · refine s_inc (pc := 131) rw_244_131 (ls2 := fun v => [.ref 77, .int n, .int l, u3, .int x4, .int v, .int x6, .int x7, .int x8]) rfl rfl (fun _ => rfl) (A := x5.toInt) (B := 1) rfl rfl (by omega) (fun v18 e19 => to_go (pc := 134) rw_244_134 ?_)
          have s_20 := g11
          exact ih.1 M15 (u3) x4 v18 (.int x6) (.int x7) (.int x8) hG12 F16 (by omega) (by omega) (by omega) (by omega) (by omega) g12 (by omega)
        · refine to_c (pc := 129) rw_244_129 (x := (1 : Int32)) rfl rfl (s_r1 (pc := 130) rw_244_130 (A := 1) rfl (by decide) ?_)
          have k_21 : (1 : Int32).toInt = 1 := rfl
          have s_22 := DV_end hG (l := l.toInt) (n := (n.toInt).toNat) (x := x6.toInt) (v := x5.toInt) (by omega) (by omega) (by have z := g13; rw [show (x8.toInt + 1).toNat = 0 by omega, Nat.sub_zero] at z; exact z) (by omega) (by rw [← g12]; omega)
          have s_23 := g11
          have s_24 : NV M15 l.toInt (n.toInt).toNat = NV N l.toInt (n.toInt).toNat := NV_f (fun i => (F_n F11 (show ¬ (123 < 0) by decide) rfl)) _
          exact h (1 : Int32) M15 hG12 F16 (by decide) (by decide) (fun _ => by omega)
      · refine to_an (pc := 82) rw_244_82 rfl (s_gR (pc := 83) rw_244_83 hG rfl (v := 123) rfl (to_i (pc := 86) rw_244_86 rfl (to_i (pc := 88) rw_244_88 rfl (to_in (pc := 90) rw_244_90 rfl (s_irem (pc := 91) rw_244_91 (A := x6.toInt) (B := l.toInt) rfl rfl (by omega) (by omega) (fun v25 e26 _ => s_ias (pc := 92) rw_244_92 hG rfl (n := 6) rfl (A := x8.toInt) rfl (by omega) (by omega) (fun M28 W27 => ?_)))))))
        have hG29 := g_w hG W27 (A := v25.toInt) rfl (lo := 0) (hi := 5) rfl rfl (by omega) (by decide)
        have F30 := FR.w F0 W27 (show 123 = 123 by decide)
        refine to_i (pc := 93) rw_244_93 rfl (to_c (pc := 95) rw_244_95 (x := (1 : Int32)) rfl rfl (to_an (pc := 96) rw_244_96 rfl (s_gR (pc := 97) rw_244_97 hG29 rfl (v := 123) rfl (to_i (pc := 100) rw_244_100 rfl (s_ialk (pc := 102) rw_244_102 hG29 rfl (n := 6) rfl rfl (A := x8.toInt) rfl (by omega) (by omega) (v := v25) (W_e W27) (s_shl1 (pc := 103) rw_244_103 (B := v25.toInt) rfl (by omega) (fun v33 _ _ => s_any (pc := 104) rw_244_104 (fun _ _ => rfl) (fun v34 => to_is (pc := 105) rw_244_105 (ls2 := [.ref 77, .int n, .int l, u3, .int x4, .int x5, .int x6, .int v34, .int x8]) rfl rfl (to_i (pc := 107) rw_244_107 rfl (to_in (pc := 109) rw_244_109 rfl (s_idiv (pc := 110) rw_244_110 (A := x6.toInt) (B := l.toInt) rfl rfl (by omega) (by omega) (fun v35 e36 _ => ?_))))))))))))
        refine to_is (pc := 111) rw_244_111 (ls2 := [.ref 77, .int n, .int l, u3, .int x4, .int x5, .int v35, .int v34, .int x8]) rfl rfl (s_inc (pc := 113) rw_244_113 (ls2 := fun v => [.ref 77, .int n, .int l, u3, .int x4, .int x5, .int v35, .int v34, .int v]) rfl rfl (fun _ => rfl) (A := x8.toInt) (B := -1) rfl rfl (by omega) (fun v37 e38 => to_go (pc := 116) rw_244_116 ?_))
        have s_39 := g11
        exact ih.2 M28 (u3) x4 x5 v35 v34 v37 hG29 F30 (by omega) (by omega) (by omega) (by omega) (by omega) (by omega) (by omega) (by omega) (by omega) (by omega) (by omega) g12 (by rw [show (v37.toInt + 1).toNat = (x8.toInt).toNat by omega, show (n.toInt).toNat - (x8.toInt).toNat = ((n.toInt).toNat - (x8.toInt + 1).toNat) + 1 by omega]; exact DV_step (by rw [show (x8.toInt).toNat + 1 = (x8.toInt + 1).toNat by omega]; exact g13) e36 e26 (fun a z => (W_n W27 (by omega) rfl)) (by rw [(W_e W27)])) (by omega)
set_option maxRecDepth 4000 in
set_option maxHeartbeats 0 in
theorem T_244_1 {X : mm_X} {d : Nat} {M : mm_M} {Q : Option Value → mm_M → Prop} {n : Int32} {l : Int32} (hX : g_X X) (hd : 2 ≤ d) (q1 : 0 ≤ n.toInt) (q2 : n.toInt ≤ 6) (q3 : 1 ≤ l.toInt) (q4 : l.toInt ≤ 6) (h : ∀ (r : Int32) (M1 : mm_M), g_G M1 → FR md_ro M M1 → (0 ≤ r.toInt) → (r.toInt ≤ 1) → (r.toInt = 1 → NV M l.toInt (n.toInt).toNat + 1 ≤ NV M1 l.toInt (n.toInt).toNat) → Q (some (.int r)) M1) : ∀ nn9 : Nat, (∀ (N : mm_M) (x3 : Int32) (x4 : Int32) (x5 : Int32) (u6 : Value) (u7 : Value) (u8 : Value), g_G N → FR md_ro M N → (1 ≤ x4.toInt) → (x4.toInt ≤ 46656) → (0 ≤ x5.toInt) → (x5.toInt ≤ 6) → (x5.toInt ≤ n.toInt) → (0 ≤ x3.toInt) → (x3.toInt ≤ 46655) → (x4.toInt = (l.toInt) ^ (x5.toInt).toNat) → (x3.toInt = NV M l.toInt (n.toInt).toNat) → 6 - x5.toInt < (nn9 : Int) → mm_T X d 243 35 [.ref 77, .int n, .int l, .int x3, .int x4, .int x5, u6, u7, u8] [] N Q) := by
  intro nn9
  induction nn9 with
  | zero =>
    intro N x3 x4 x5 u6 u7 u8 hG F0 g1 g2 g3 g4 g5 g6 g7 g8 g9 hm
    exfalso; omega
  | succ nn9 ih =>
    intro N x3 x4 x5 u6 u7 u8 hG F0 g1 g2 g3 g4 g5 g6 g7 g8 g9 hm
    refine to_i (pc := 35) rw_244_35 rfl (to_in (pc := 37) rw_244_37 rfl (b_cge (pc := 38) rw_244_38 (A := x5.toInt) (B := n.toInt) rfl rfl (fun h40 => ?_) (fun h40 => ?_)))
    · refine to_in (pc := 53) rw_244_53 rfl (to_c (pc := 54) rw_244_54 (x := (1 : Int32)) rfl rfl (s_add (pc := 55) rw_244_55 (A := x3.toInt) (B := 1) rfl rfl (by omega) (fun v41 e42 => to_is (pc := 56) rw_244_56 (ls2 := [.ref 77, .int n, .int l, .int x3, .int x4, .int v41, u6, u7, u8]) rfl rfl ?_)))
      exact (T_244_0 (n := n) (l := l) hX hd q1 q2 q3 q4 h (((46657 - v41.toInt) * 100 + 50).toNat + 1)).1 N (.int x3) x4 v41 (u6) (u7) (u8) hG F0 (by omega) (by omega) (by omega) (by omega) (by rw [← g9]; omega) (by rw [show (n.toInt).toNat = (x5.toInt).toNat by omega]; exact g8) (by omega)
    · refine to_i (pc := 41) rw_244_41 rfl (to_in (pc := 43) rw_244_43 rfl ?_)
      have m_45 := mul_r (A := x4.toInt) (B := l.toInt) (a := 46656) (b := 6) (by omega) (by omega)
      refine s_mul (pc := 44) rw_244_44 (A := x4.toInt) (B := l.toInt) rfl rfl (by omega) (fun v43 e44 => to_is (pc := 45) rw_244_45 (ls2 := [.ref 77, .int n, .int l, .int x3, .int v43, .int x5, u6, u7, u8]) rfl rfl (s_inc (pc := 47) rw_244_47 (ls2 := fun v => [.ref 77, .int n, .int l, .int x3, .int v43, .int v, u6, u7, u8]) rfl rfl (fun _ => rfl) (A := x5.toInt) (B := 1) rfl rfl (by omega) (fun v46 e47 => to_go (pc := 50) rw_244_50 ?_)))
      have s_48 : l.toInt ^ (v46.toInt).toNat = l.toInt ^ (x5.toInt).toNat * l.toInt := by rw [show (v46.toInt).toNat = (x5.toInt).toNat + 1 by omega]; exact Int.pow_succ _ _
      have s_49 : x4.toInt * l.toInt = l.toInt ^ (x5.toInt).toNat * l.toInt := by rw [g8]
      have s_50 := pl_6 (l := l.toInt) (by omega) (by omega) (k := (v46.toInt).toNat) (by omega)
      exact ih N x3 v43 v46 (u6) (u7) (u8) hG F0 (by omega) (by omega) (by omega) (by omega) (by omega) (by omega) (by omega) (by omega) g9 (by omega)
set_option maxRecDepth 4000 in
set_option maxHeartbeats 0 in
theorem T_244_2 {X : mm_X} {d : Nat} {M : mm_M} {Q : Option Value → mm_M → Prop} {n : Int32} {l : Int32} (hX : g_X X) (hd : 2 ≤ d) (q1 : 0 ≤ n.toInt) (q2 : n.toInt ≤ 6) (q3 : 1 ≤ l.toInt) (q4 : l.toInt ≤ 6) (h : ∀ (r : Int32) (M1 : mm_M), g_G M1 → FR md_ro M M1 → (0 ≤ r.toInt) → (r.toInt ≤ 1) → (r.toInt = 1 → NV M l.toInt (n.toInt).toNat + 1 ≤ NV M1 l.toInt (n.toInt).toNat) → Q (some (.int r)) M1) : ∀ nn9 : Nat, (∀ (N : mm_M) (x3 : Int32) (x4 : Int32) (u5 : Value) (u6 : Value) (u7 : Value) (u8 : Value), g_G N → FR md_ro M N → (0 ≤ x4.toInt) → (x4.toInt ≤ 6) → (x4.toInt ≤ n.toInt) → (0 ≤ x3.toInt) → (x3.toInt ≤ 46655) → (x3.toInt = NV N l.toInt (x4.toInt).toNat) → (NV N l.toInt (n.toInt).toNat = NV M l.toInt (n.toInt).toNat) → 6 - x4.toInt < (nn9 : Int) → mm_T X d 243 5 [.ref 77, .int n, .int l, .int x3, .int x4, u5, u6, u7, u8] [] N Q) := by
  intro nn9
  induction nn9 with
  | zero =>
    intro N x3 x4 u5 u6 u7 u8 hG F0 g1 g2 g3 g4 g5 g6 g7 hm
    exfalso; omega
  | succ nn9 ih =>
    intro N x3 x4 u5 u6 u7 u8 hG F0 g1 g2 g3 g4 g5 g6 g7 hm
    refine to_i (pc := 5) rw_244_5 rfl (to_in (pc := 7) rw_244_7 rfl (b_cge (pc := 8) rw_244_8 (A := x4.toInt) (B := n.toInt) rfl rfl (fun h51 => ?_) (fun h51 => ?_)))
    · refine to_c (pc := 29) rw_244_29 (x := (1 : Int32)) rfl rfl (to_is (pc := 30) rw_244_30 (ls2 := [.ref 77, .int n, .int l, .int x3, .int (1 : Int32), u5, u6, u7, u8]) rfl rfl (to_c (pc := 32) rw_244_32 (x := (0 : Int32)) rfl rfl (to_is (pc := 33) rw_244_33 (ls2 := [.ref 77, .int n, .int l, .int x3, .int (1 : Int32), .int (0 : Int32), u6, u7, u8]) rfl rfl ?_)))
      have k_52 : (1 : Int32).toInt = 1 := rfl
      have k_53 : (0 : Int32).toInt = 0 := rfl
      have s_54 : l.toInt ^ ((0 : Int32).toInt).toNat = 1 := Int.pow_zero _
      exact (T_244_1 (n := n) (l := l) hX hd q1 q2 q3 q4 h ((6 - (0 : Int32).toInt).toNat + 1)) N x3 (1 : Int32) (0 : Int32) (u6) (u7) (u8) hG F0 (by omega) (by omega) (by omega) (by omega) (by omega) (by omega) (by omega) (by omega) (by rw [← g7, show (n.toInt).toNat = (x4.toInt).toNat by omega]; exact g6) (by omega)
    · refine to_in (pc := 11) rw_244_11 rfl (to_in (pc := 12) rw_244_12 rfl ?_)
      have m_57 := mul_r (A := l.toInt) (B := x3.toInt) (a := 6) (b := 46655) (by omega) (by omega)
      refine s_mul (pc := 13) rw_244_13 (A := l.toInt) (B := x3.toInt) rfl rfl (by omega) (fun v55 e56 => to_an (pc := 14) rw_244_14 rfl (s_gR (pc := 15) rw_244_15 hG rfl (v := 123) rfl (to_i (pc := 18) rw_244_18 rfl (s_ial (pc := 20) rw_244_20 hG rfl (n := 6) rfl rfl (A := x4.toInt) rfl (by omega) (by omega) (lo := 0) (hi := 5) rfl rfl (fun v58 w_59 _ _ => ?_)))))
      have t_60 := congrArg Int32.toInt w_59
      refine s_add (pc := 21) rw_244_21 (A := v55.toInt) (B := v58.toInt) rfl rfl (by omega) (fun v61 e62 => to_isn (pc := 22) rw_244_22 (ls2 := [.ref 77, .int n, .int l, .int v61, .int x4, u5, u6, u7, u8]) rfl rfl (s_inc (pc := 23) rw_244_23 (ls2 := fun v => [.ref 77, .int n, .int l, .int v61, .int v, u5, u6, u7, u8]) rfl rfl (fun _ => rfl) (A := x4.toInt) (B := 1) rfl rfl (by omega) (fun v63 e64 => to_go (pc := 26) rw_244_26 ?_)))
      have s_65 : NV N l.toInt (v63.toInt).toNat = l.toInt * NV N l.toInt (x4.toInt).toNat + (N.2.1 123 (x4.toInt).toNat).toInt := by rw [show (v63.toInt).toNat = (x4.toInt).toNat + 1 by omega]; rfl
      have s_66 : l.toInt * x3.toInt = l.toInt * NV N l.toInt (x4.toInt).toNat := by rw [g6]
      have s_67 := NV_b hG (l := l.toInt) (by omega) (by omega) (k := (v63.toInt).toNat) (by omega)
      exact ih N v61 v63 (u5) (u6) (u7) (u8) hG F0 (by omega) (by omega) (by omega) (by omega) (by omega) (by omega) g7 (by omega)
set_option maxRecDepth 4000 in
set_option maxHeartbeats 0 in
theorem C_244 {X : mm_X} {d : Nat} {M : mm_M} {Q : Option Value → mm_M → Prop} {n : Int32} {l : Int32} (hX : g_X X) (hd : 2 ≤ d) (hG : g_G M) (q1 : 0 ≤ n.toInt) (q2 : n.toInt ≤ 6) (q3 : 1 ≤ l.toInt) (q4 : l.toInt ≤ 6) (h : ∀ (r : Int32) (M1 : mm_M), g_G M1 → FR md_ro M M1 → (0 ≤ r.toInt) → (r.toInt ≤ 1) → (r.toInt = 1 → NV M l.toInt (n.toInt).toNat + 1 ≤ NV M1 l.toInt (n.toInt).toNat) → Q (some (.int r)) M1) : mm_T X d 243 0 [.ref 77, .int n, .int l, .null, .null, .null, .null, .null, .null] [] M Q := by
  have F0 : FR md_ro M M := FR.rf
  refine to_c (pc := 0) rw_244_0 (x := (0 : Int32)) rfl rfl (to_isn (pc := 1) rw_244_1 (ls2 := [.ref 77, .int n, .int l, .int (0 : Int32), .null, .null, .null, .null, .null]) rfl rfl (to_c (pc := 2) rw_244_2 (x := (0 : Int32)) rfl rfl (to_is (pc := 3) rw_244_3 (ls2 := [.ref 77, .int n, .int l, .int (0 : Int32), .int (0 : Int32), .null, .null, .null, .null]) rfl rfl ?_)))
  have k_68 : (0 : Int32).toInt = 0 := rfl
  have s_69 : NV M l.toInt ((0 : Int32).toInt).toNat = 0 := rfl
  exact (T_244_2 (n := n) (l := l) hX hd q1 q2 q3 q4 h ((6 - (0 : Int32).toInt).toNat + 1)) M (0 : Int32) (0 : Int32) (.null) (.null) (.null) (.null) hG F0 (by omega) (by omega) (by omega) (by omega) (by omega) (by omega) rfl (by omega)
set_option maxRecDepth 4000 in
set_option maxHeartbeats 0 in
theorem T_245_0 {X : mm_X} {d : Nat} {M : mm_M} {Q : Option Value → mm_M → Prop} {p : Int32} {f : Int32} {w : Int32} (hX : g_X X) (hd : 3 ≤ d) (q1 : NJ M) (q2 : FA M) (h : ∀ (r : Int32) (M1 : mm_M), g_G M1 → FR md_st M M1 → Q (some (.int r)) M1) : ∀ nn9 : Nat, (∀ (N : mm_M) (x4 : Int32) (x5 : Int32) (u6 : Value), g_G N → FR md_st M N → (0 ≤ p.toInt) → (p.toInt ≤ 5) → (0 ≤ f.toInt) → (f.toInt ≤ 7) → (1 ≤ x4.toInt) → (x4.toInt ≤ 6) → (0 ≤ w.toInt) → (w.toInt ≤ 6) → (0 ≤ x5.toInt) → (x5.toInt ≤ 7) → (7 - x5.toInt) * 1000000 + 900000 < (nn9 : Int) → mm_T X d 244 124 [.ref 77, .int p, .int f, .int w, .int x4, .int x5, u6] [] N Q) ∧ (∀ (N : mm_M) (x4 : Int32) (x5 : Int32) (x6 : Int32), g_G N → FR md_st M N → (0 ≤ p.toInt) → (p.toInt ≤ 5) → (0 ≤ f.toInt) → (f.toInt ≤ 7) → (1 ≤ x4.toInt) → (x4.toInt ≤ 6) → (0 ≤ w.toInt) → (w.toInt ≤ 6) → (0 ≤ x5.toInt) → (x5.toInt ≤ 6) → (x5.toInt ≤ x4.toInt) → (0 ≤ x6.toInt) → (x6.toInt ≤ 6) → (7 - x5.toInt) * 1000000 + 800000 - x6.toInt < (nn9 : Int) → mm_T X d 244 134 [.ref 77, .int p, .int f, .int w, .int x4, .int x5, .int x6] [] N Q) ∧ (∀ (N : mm_M) (x4 : Int32) (x5 : Int32) (x6 : Int32), g_G N → FR md_st M N → (0 ≤ p.toInt) → (p.toInt ≤ 5) → (0 ≤ f.toInt) → (f.toInt ≤ 7) → (1 ≤ x4.toInt) → (x4.toInt ≤ 6) → (0 ≤ w.toInt) → (w.toInt ≤ 6) → (0 ≤ x5.toInt) → (x5.toInt ≤ 6) → (x5.toInt ≤ x4.toInt) → (0 ≤ x6.toInt) → (x6.toInt ≤ 1) → (True) → (7 - x5.toInt) * 1000000 + NM x6.toInt (NV N x4.toInt (x5.toInt).toNat) < (nn9 : Int) → mm_T X d 244 159 [.ref 77, .int p, .int f, .int w, .int x4, .int x5, .int x6] [] N Q) := by
  intro nn9
  induction nn9 with
  | zero =>
    refine ⟨?_, ?_, ?_⟩
    · intro N x4 x5 u6 hG F0 g1 g2 g3 g4 g5 g6 g7 g8 g9 g10 hm
      exfalso; omega
    · intro N x4 x5 x6 hG F0 g1 g2 g3 g4 g5 g6 g7 g8 g9 g10 g11 g12 g13 hm
      exfalso; omega
    · intro N x4 x5 x6 hG F0 g1 g2 g3 g4 g5 g6 g7 g8 g9 g10 g11 g12 g13 g14 hm
      have s_1 := NV_b hG (l := x4.toInt) (by omega) (by omega) (k := (x5.toInt).toNat) (by omega)
      have s_2 : x6.toInt = 0 → NM x6.toInt (NV N x4.toInt (x5.toInt).toNat) = 0 := NM_0
      have s_3 : x6.toInt = 1 → NM x6.toInt (NV N x4.toInt (x5.toInt).toNat) = 100000 - NV N x4.toInt (x5.toInt).toNat := NM_1
      exfalso; omega
  | succ nn9 ih =>
    refine ⟨?_, ?_, ?_⟩
    · intro N x4 x5 u6 hG F0 g1 g2 g3 g4 g5 g6 g7 g8 g9 g10 hm
      refine to_i (pc := 124) rw_245_124 rfl (to_i (pc := 126) rw_245_126 rfl (b_cgt (pc := 128) rw_245_128 (A := x5.toInt) (B := x4.toInt) rfl rfl (fun h4 => ?_) (fun h4 => ?_)))
      · refine to_c (pc := 229) rw_245_229 (x := (-2 : Int32)) rfl rfl (to_r0 (pc := 231) rw_245_231 ?_)
        have k_5 : (-2 : Int32).toInt = -2 := rfl
        exact h (-2 : Int32) N hG F0 
      · refine to_c (pc := 131) rw_245_131 (x := (0 : Int32)) rfl rfl (to_is (pc := 132) rw_245_132 (ls2 := [.ref 77, .int p, .int f, .int w, .int x4, .int x5, .int (0 : Int32)]) rfl rfl ?_)
        have k_6 : (0 : Int32).toInt = 0 := rfl
        exact ih.2.1 N x4 x5 (0 : Int32) hG F0 (by omega) (by omega) (by omega) (by omega) (by omega) (by omega) (by omega) (by omega) (by omega) (by omega) (by omega) (by omega) (by omega) (by omega)
    · intro N x4 x5 x6 hG F0 g1 g2 g3 g4 g5 g6 g7 g8 g9 g10 g11 g12 g13 hm
      refine to_i (pc := 134) rw_245_134 rfl (to_i (pc := 136) rw_245_136 rfl (b_cge (pc := 138) rw_245_138 (A := x6.toInt) (B := x5.toInt) rfl rfl (fun h7 => ?_) (fun h7 => ?_)))
      · refine to_c (pc := 156) rw_245_156 (x := (1 : Int32)) rfl rfl (to_is (pc := 157) rw_245_157 (ls2 := [.ref 77, .int p, .int f, .int w, .int x4, .int x5, .int (1 : Int32)]) rfl rfl ?_)
        have k_8 : (1 : Int32).toInt = 1 := rfl
        have s_9 := NV_b hG (l := x4.toInt) (by omega) (by omega) (k := (x5.toInt).toNat) (by omega)
        have s_10 : (1 : Int32).toInt = 0 → NM (1 : Int32).toInt (NV N x4.toInt (x5.toInt).toNat) = 0 := NM_0
        have s_11 : (1 : Int32).toInt = 1 → NM (1 : Int32).toInt (NV N x4.toInt (x5.toInt).toNat) = 100000 - NV N x4.toInt (x5.toInt).toNat := NM_1
        exact ih.2.2 N x4 x5 (1 : Int32) hG F0 (by omega) (by omega) (by omega) (by omega) (by omega) (by omega) (by omega) (by omega) (by omega) (by omega) (by omega) (by omega) (by omega) trivial (by omega)
      · refine to_an (pc := 141) rw_245_141 rfl (s_gR (pc := 142) rw_245_142 hG rfl (v := 123) rfl (to_i (pc := 145) rw_245_145 rfl (to_i (pc := 147) rw_245_147 rfl (s_ias (pc := 149) rw_245_149 hG rfl (n := 6) rfl (A := x6.toInt) rfl (by omega) (by omega) (fun M13 W12 => ?_)))))
        have hG14 := g_w hG W12 (A := x6.toInt) rfl (lo := 0) (hi := 5) rfl rfl (by omega) (by decide)
        have F15 := FR.w F0 W12 (show 123 = 77 ∧ (x6.toInt).toNat = 2 ∨ 94 ≤ 123 ∧ 123 ≤ 98 ∨ 121 ≤ 123 ∧ 123 ≤ 124 by omega)
        refine s_inc (pc := 150) rw_245_150 (ls2 := fun v => [.ref 77, .int p, .int f, .int w, .int x4, .int x5, .int v]) rfl rfl (fun _ => rfl) (A := x6.toInt) (B := 1) rfl rfl (by omega) (fun v16 e17 => to_go (pc := 153) rw_245_153 ?_)
        exact ih.2.1 M13 x4 x5 v16 hG14 F15 (by omega) (by omega) (by omega) (by omega) (by omega) (by omega) (by omega) (by omega) (by omega) (by omega) (by omega) (by omega) (by omega) (by omega)
    · intro N x4 x5 x6 hG F0 g1 g2 g3 g4 g5 g6 g7 g8 g9 g10 g11 g12 g13 g14 hm
      have s_18 := NV_b hG (l := x4.toInt) (by omega) (by omega) (k := (x5.toInt).toNat) (by omega)
      have s_19 : x6.toInt = 0 → NM x6.toInt (NV N x4.toInt (x5.toInt).toNat) = 0 := NM_0
      have s_20 : x6.toInt = 1 → NM x6.toInt (NV N x4.toInt (x5.toInt).toNat) = 100000 - NV N x4.toInt (x5.toInt).toNat := NM_1
      refine to_i (pc := 159) rw_245_159 rfl (b_ieq (pc := 161) rw_245_161 (A := x6.toInt) rfl (fun h21 => ?_) (fun h21 => ?_))
      · refine s_inc (pc := 223) rw_245_223 (ls2 := fun v => [.ref 77, .int p, .int f, .int w, .int x4, .int v, .int x6]) rfl rfl (fun _ => rfl) (A := x5.toInt) (B := 1) rfl rfl (by omega) (fun v22 e23 => to_go (pc := 226) rw_245_226 ?_)
        exact ih.1 N x4 v22 (.int x6) hG F0 (by omega) (by omega) (by omega) (by omega) (by omega) (by omega) (by omega) (by omega) (by omega) (by omega) (by omega)
      · refine to_an (pc := 164) rw_245_164 rfl (to_in (pc := 165) rw_245_165 rfl (to_in (pc := 166) rw_245_166 rfl (to_i (pc := 167) rw_245_167 rfl (s_v (pc := 169) rw_245_169 (dp0 hd (by decide)) (ls0 := [.ref 77, .int p, .int f, .int x5, .null, .null, .null, .null]) rfl (Nat.le_of_ble_eq_true rfl) (Nat.le_of_ble_eq_true rfl) rfl (to_rc rfl rfl rfl (g_o hG rfl)) rfl (C_243 hX (dp1 hd (by decide)) hG (by omega) (by omega) (by omega) (by omega) (by omega) (by omega) (p := p) (f := f) (n := x5) (fun r24 M29 hG26 F25 p_27 p_28 => ?_))))))
        have F30 := FR.c F0 F25 tg_359
        refine b_ieq (pc := 172) rw_245_172 (A := r24.toInt) rfl (fun h31 => ?_) (fun h31 => ?_)
        · refine to_an (pc := 210) rw_245_210 rfl (to_i (pc := 211) rw_245_211 rfl (to_i (pc := 213) rw_245_213 rfl (s_v (pc := 215) rw_245_215 (dp0 hd (by decide)) (ls0 := [.ref 77, .int x5, .int x4, .null, .null, .null, .null, .null, .null]) rfl (Nat.le_of_ble_eq_true rfl) (Nat.le_of_ble_eq_true rfl) rfl (to_rc rfl rfl rfl (g_o hG26 rfl)) rfl (C_244 hX (dp1 hd (by decide)) hG26 (by omega) (by omega) (by omega) (by omega) (n := x5) (l := x4) (fun r32 M38 hG34 F33 p_35 p_36 p_37 => ?_)))))
          have F39 := FR.c F30 F33 tg_360
          refine to_is (pc := 218) rw_245_218 (ls2 := [.ref 77, .int p, .int f, .int w, .int x4, .int x5, .int r32]) rfl rfl (to_go (pc := 220) rw_245_220 ?_)
          have s_40 := NV_b hG34 (l := x4.toInt) (by omega) (by omega) (k := (x5.toInt).toNat) (by omega)
          have s_41 : r32.toInt = 0 → NM r32.toInt (NV M38 x4.toInt (x5.toInt).toNat) = 0 := NM_0
          have s_42 : r32.toInt = 1 → NM r32.toInt (NV M38 x4.toInt (x5.toInt).toNat) = 100000 - NV M38 x4.toInt (x5.toInt).toNat := NM_1
          have s_43 := p_37
          have s_44 : NV M29 x4.toInt (x5.toInt).toNat = NV N x4.toInt (x5.toInt).toNat := NV_f (fun i => (F_n F25 (show ¬ (123 = 121 ∨ 123 = 122) by decide) rfl)) _
          exact ih.2.2 M38 x4 x5 r32 hG34 F39 (by omega) (by omega) (by omega) (by omega) (by omega) (by omega) (by omega) (by omega) (by omega) (by omega) (by omega) (by omega) (by omega) trivial (by omega)
        · refine to_in (pc := 175) rw_245_175 rfl (b_ine (pc := 176) rw_245_176 (A := w.toInt) rfl (fun h45 => ?_) (fun h45 => ?_))
          · refine to_in (pc := 184) rw_245_184 rfl (to_i (pc := 185) rw_245_185 rfl (b_cgt (pc := 187) rw_245_187 (A := w.toInt) (B := x5.toInt) rfl rfl (fun h46 => ?_) (fun h46 => ?_)))
            · refine to_c (pc := 208) rw_245_208 (x := (-1 : Int32)) rfl rfl (to_r0 (pc := 209) rw_245_209 ?_)
              have k_47 : (-1 : Int32).toInt = -1 := rfl
              exact h (-1 : Int32) M29 hG26 F30 
            · refine to_an (pc := 190) rw_245_190 rfl (s_gR (pc := 191) rw_245_191 hG26 rfl (v := 82) rfl (to_in (pc := 194) rw_245_194 rfl (s_ial (pc := 195) rw_245_195 hG26 rfl (n := 16) rfl rfl (A := f.toInt) rfl (by omega) (by omega) (lo := 0) (hi := 59) rfl rfl (fun v48 w_49 _ _ => to_an (pc := 196) rw_245_196 rfl (s_gR (pc := 197) rw_245_197 hG26 rfl (v := 123) rfl (to_in (pc := 200) rw_245_200 rfl (to_c (pc := 201) rw_245_201 (x := (1 : Int32)) rfl rfl (s_sub (pc := 202) rw_245_202 (A := w.toInt) (B := 1) rfl rfl (by omega) (fun v50 e51 => s_ial (pc := 203) rw_245_203 hG26 rfl (n := 6) rfl rfl (A := v50.toInt) rfl (by omega) (by omega) (lo := 0) (hi := 5) rfl rfl (fun v52 w_53 _ _ => s_add (pc := 204) rw_245_204 (A := v48.toInt) (B := v52.toInt) rfl rfl (by omega) (fun v54 e55 => to_go (pc := 205) rw_245_205 ?_)))))))))))
              refine to_r0 (pc := 209) rw_245_209 ?_
              exact h v54 M29 hG26 F30 
          · refine to_i (pc := 179) rw_245_179 rfl (to_go (pc := 181) rw_245_181 (to_r0 (pc := 209) rw_245_209 ?_))
            exact h x5 M29 hG26 F30 
set_option maxRecDepth 4000 in
set_option maxHeartbeats 0 in
theorem T_245_1 {X : mm_X} {d : Nat} {M : mm_M} {Q : Option Value → mm_M → Prop} {p : Int32} {f : Int32} {w : Int32} (hX : g_X X) (hd : 3 ≤ d) (q1 : NJ M) (q2 : FA M) (h : ∀ (r : Int32) (M1 : mm_M), g_G M1 → FR md_st M M1 → Q (some (.int r)) M1) : ∀ nn9 : Nat, (∀ (N : mm_M) (x4 : Int32) (x5 : Int32) (u6 : Value), g_G N → FR md_st M N → (0 ≤ p.toInt) → (p.toInt ≤ 5) → (0 ≤ f.toInt) → (f.toInt ≤ 7) → (1 ≤ x4.toInt) → (x4.toInt ≤ 6) → (0 ≤ w.toInt) → (w.toInt ≤ 6) → (0 ≤ x5.toInt) → (x5.toInt ≤ 30) → (30 - x5.toInt) * 100 + 50 < (nn9 : Int) → mm_T X d 244 60 [.ref 77, .int p, .int f, .int w, .int x4, .int x5, u6] [] N Q) ∧ (∀ (N : mm_M) (x4 : Int32) (x5 : Int32) (x6 : Int32), g_G N → FR md_st M N → (0 ≤ p.toInt) → (p.toInt ≤ 5) → (0 ≤ f.toInt) → (f.toInt ≤ 7) → (1 ≤ x4.toInt) → (x4.toInt ≤ 6) → (0 ≤ w.toInt) → (w.toInt ≤ 6) → (0 ≤ x5.toInt) → (x5.toInt ≤ 29) → (0 ≤ x6.toInt) → (x6.toInt ≤ 6) → (30 - x5.toInt) * 100 + 6 - x6.toInt < (nn9 : Int) → mm_T X d 244 72 [.ref 77, .int p, .int f, .int w, .int x4, .int x5, .int x6] [] N Q) := by
  intro nn9
  induction nn9 with
  | zero =>
    refine ⟨?_, ?_⟩
    · intro N x4 x5 u6 hG F0 g1 g2 g3 g4 g5 g6 g7 g8 g9 g10 hm
      exfalso; omega
    · intro N x4 x5 x6 hG F0 g1 g2 g3 g4 g5 g6 g7 g8 g9 g10 g11 g12 hm
      exfalso; omega
  | succ nn9 ih =>
    refine ⟨?_, ?_⟩
    · intro N x4 x5 u6 hG F0 g1 g2 g3 g4 g5 g6 g7 g8 g9 g10 hm
      refine to_i (pc := 60) rw_245_60 rfl (to_an (pc := 62) rw_245_62 rfl ?_)
      have b_56 := g_b hG (a := 77) (i := 28) (lo := 0) (hi := 30) rfl rfl
      refine tt_gI (pc := 63) rw_245_63 (g_o hG rfl) (v := (N.2.1 77 28)) rfl (b_cge (pc := 66) rw_245_66 (A := x5.toInt) (B := (N.2.1 77 28).toInt) rfl rfl (fun h57 => ?_) (fun h57 => ?_))
      · refine to_c (pc := 121) rw_245_121 (x := (0 : Int32)) rfl rfl (to_is (pc := 122) rw_245_122 (ls2 := [.ref 77, .int p, .int f, .int w, .int x4, .int (0 : Int32), u6]) rfl rfl ?_)
        have k_58 : (0 : Int32).toInt = 0 := rfl
        exact (T_245_0 (p := p) (f := f) (w := w) hX hd q1 q2 h (((7 - (0 : Int32).toInt) * 1000000 + 900000).toNat + 1)).1 N x4 (0 : Int32) (u6) hG F0 (by omega) (by omega) (by omega) (by omega) (by omega) (by omega) (by omega) (by omega) (by omega) (by omega) (by omega)
      · refine to_c (pc := 69) rw_245_69 (x := (0 : Int32)) rfl rfl (to_is (pc := 70) rw_245_70 (ls2 := [.ref 77, .int p, .int f, .int w, .int x4, .int x5, .int (0 : Int32)]) rfl rfl ?_)
        have k_59 : (0 : Int32).toInt = 0 := rfl
        exact ih.2 N x4 x5 (0 : Int32) hG F0 (by omega) (by omega) (by omega) (by omega) (by omega) (by omega) (by omega) (by omega) (by omega) (by omega) (by omega) (by omega) (by omega)
    · intro N x4 x5 x6 hG F0 g1 g2 g3 g4 g5 g6 g7 g8 g9 g10 g11 g12 hm
      refine to_i (pc := 72) rw_245_72 rfl (to_i (pc := 74) rw_245_74 rfl (b_cge (pc := 76) rw_245_76 (A := x6.toInt) (B := x4.toInt) rfl rfl (fun h60 => ?_) (fun h60 => ?_)))
      · refine s_inc (pc := 115) rw_245_115 (ls2 := fun v => [.ref 77, .int p, .int f, .int w, .int x4, .int v, .int x6]) rfl rfl (fun _ => rfl) (A := x5.toInt) (B := 1) rfl rfl (by omega) (fun v61 e62 => to_go (pc := 118) rw_245_118 ?_)
        exact ih.1 N x4 v61 (.int x6) hG F0 (by omega) (by omega) (by omega) (by omega) (by omega) (by omega) (by omega) (by omega) (by omega) (by omega) (by omega)
      · refine to_an (pc := 79) rw_245_79 rfl (s_gR (pc := 80) rw_245_80 hG rfl (v := 124) rfl (to_c (pc := 83) rw_245_83 (x := (6 : Int32)) rfl rfl (to_i (pc := 85) rw_245_85 rfl (s_mul (pc := 87) rw_245_87 (A := 6) (B := x5.toInt) rfl rfl (by omega) (fun v63 e64 => to_i (pc := 88) rw_245_88 rfl (s_add (pc := 90) rw_245_90 (A := v63.toInt) (B := x6.toInt) rfl rfl (by omega) (fun v65 e66 => to_an (pc := 91) rw_245_91 rfl (to_i (pc := 92) rw_245_92 rfl (s_cl (pc := 94) rw_245_94 rfl (fun l67 => to_an (pc := 95) rw_245_95 rfl (s_gR (pc := 96) rw_245_96 hG rfl (v := 82) rfl ?_)))))))))))
        refine to_in (pc := 99) rw_245_99 rfl (s_ial (pc := 100) rw_245_100 hG rfl (n := 16) rfl rfl (A := f.toInt) rfl (by omega) (by omega) (lo := 0) (hi := 59) rfl rfl (fun v68 w_69 _ _ => to_i (pc := 101) rw_245_101 rfl (s_add (pc := 103) rw_245_103 (A := v68.toInt) (B := x6.toInt) rfl rfl (by omega) (fun v70 e71 => s_anyS (pc := 104) rw_245_104 (fun _ _ => rfl) (fun l72 => s_v (pc := 105) rw_245_105 (dp0 hd (by decide)) (ls0 := [.ref 77, .int x5, .long l72, .null, .null]) rfl (Nat.le_of_ble_eq_true rfl) (Nat.le_of_ble_eq_true rfl) rfl (to_rc rfl rfl rfl (g_o hG rfl)) rfl (C_207 hX (dp1 hd (by decide)) hG (by omega) (by omega) (c := x5) (x := l72) (fun r73 M78 hG75 F74 p_76 p_77 => ?_)))))))
        have F79 := FR.c F0 F74 tg_361
        refine s_zas (pc := 108) rw_245_108 hG75 rfl (n := 180) rfl (A := v65.toInt) rfl (by omega) (by omega) (B := r73.toInt) rfl (by omega) (fun M81 W80 => ?_)
        have hG82 := g_w hG75 W80 (A := r73.toInt) rfl (lo := 0) (hi := 1) rfl rfl (by omega) (by decide)
        have F83 := FR.w F79 W80 (show 124 = 77 ∧ (v65.toInt).toNat = 2 ∨ 94 ≤ 124 ∧ 124 ≤ 98 ∨ 121 ≤ 124 ∧ 124 ≤ 124 by omega)
        refine s_inc (pc := 109) rw_245_109 (ls2 := fun v => [.ref 77, .int p, .int f, .int w, .int x4, .int x5, .int v]) rfl rfl (fun _ => rfl) (A := x6.toInt) (B := 1) rfl rfl (by omega) (fun v84 e85 => to_go (pc := 112) rw_245_112 ?_)
        exact ih.2 M81 x4 x5 v84 hG82 F83 (by omega) (by omega) (by omega) (by omega) (by omega) (by omega) (by omega) (by omega) (by omega) (by omega) (by omega) (by omega) (by omega)
set_option maxRecDepth 4000 in
set_option maxHeartbeats 0 in
theorem C_245 {X : mm_X} {d : Nat} {M : mm_M} {Q : Option Value → mm_M → Prop} {p : Int32} {f : Int32} {w : Int32} (hX : g_X X) (hd : 3 ≤ d) (hG : g_G M) (q1 : NJ M) (q2 : FA M) (h : ∀ (r : Int32) (M1 : mm_M), g_G M1 → FR md_st M M1 → Q (some (.int r)) M1) : mm_T X d 244 0 [.ref 77, .int p, .int f, .int w, .null, .null, .null] [] M Q := by
  have F0 : FR md_st M M := FR.rf
  refine to_an (pc := 0) rw_245_0 rfl (to_c (pc := 1) rw_245_1 (x := (0 : Int32)) rfl rfl (s_pI (pc := 2) rw_245_2 hG rfl (fun M87 W86 => ?_)))
  have hG88 := g_wf hG W86 rfl rfl (by decide)
  have F89 := FR.w F0 W86 (show 77 = 77 ∧ 2 = 2 ∨ 94 ≤ 77 ∧ 77 ≤ 98 ∨ 121 ≤ 77 ∧ 77 ≤ 124 by decide)
  refine to_in (pc := 5) rw_245_5 rfl (s_s (pc := 6) rw_245_6 (dp0 hd (by decide)) (ls0 := [.int p]) rfl (Nat.le_of_ble_eq_true rfl) (Nat.le_of_ble_eq_true rfl) rfl (to_rcs rfl rfl) rfl (to_in (pc := 0) rw_205_0 rfl (b_ilt (pc := 1) rw_205_1 (A := p.toInt) rfl (fun h90 => ?_) (fun h90 => ?_))))
  · refine to_c (pc := 14) rw_205_14 (x := (0 : Int32)) rfl rfl (s_r1 (pc := 15) rw_205_15 (A := 0) rfl (by decide) (b_ieq_t (pc := 9) rw_245_9 (A := 0) rfl (by decide) (to_c (pc := 40) rw_245_40 (x := (-1 : Int32)) rfl rfl (to_r0 (pc := 41) rw_245_41 ?_))))
    have k_91 : (-1 : Int32).toInt = -1 := rfl
    exact h (-1 : Int32) M87 hG88 F89 
  · refine to_in (pc := 4) rw_205_4 rfl (to_c (pc := 5) rw_205_5 (x := (6 : Int32)) rfl rfl (b_cge (pc := 7) rw_205_7 (A := p.toInt) (B := 6) rfl rfl (fun h92 => ?_) (fun h92 => ?_)))
    · refine to_c (pc := 14) rw_205_14 (x := (0 : Int32)) rfl rfl (s_r1 (pc := 15) rw_205_15 (A := 0) rfl (by decide) (b_ieq_t (pc := 9) rw_245_9 (A := 0) rfl (by decide) (to_c (pc := 40) rw_245_40 (x := (-1 : Int32)) rfl rfl (to_r0 (pc := 41) rw_245_41 ?_))))
      have k_93 : (-1 : Int32).toInt = -1 := rfl
      exact h (-1 : Int32) M87 hG88 F89 
    · refine to_c (pc := 10) rw_205_10 (x := (1 : Int32)) rfl rfl (to_go (pc := 11) rw_205_11 (s_r1 (pc := 15) rw_205_15 (A := 1) rfl (by decide) (b_ieq_f (pc := 9) rw_245_9 (A := 1) rfl (by decide) (to_an (pc := 12) rw_245_12 rfl (to_in (pc := 13) rw_245_13 rfl (s_v (pc := 14) rw_245_14 (dp0 hd (by decide)) (ls0 := [.ref 77, .int f]) rfl (Nat.le_of_ble_eq_true rfl) (Nat.le_of_ble_eq_true rfl) rfl (to_rc rfl rfl rfl (g_o hG88 rfl)) rfl (to_an (pc := 0) rw_179_0 rfl (to_in (pc := 1) rw_179_1 rfl (s_v (pc := 2) rw_179_2 (dp1 hd (by decide)) (ls0 := [.ref 77, .int f]) rfl (Nat.le_of_ble_eq_true rfl) (Nat.le_of_ble_eq_true rfl) rfl (to_rc rfl rfl rfl (g_o hG88 rfl)) rfl (to_in (pc := 0) rw_178_0 rfl (b_ilt (pc := 1) rw_178_1 (A := f.toInt) rfl (fun h94 => ?_) (fun h94 => ?_))))))))))))
      · refine to_c (pc := 16) rw_178_16 (x := (0 : Int32)) rfl rfl (s_r1 (pc := 17) rw_178_17 (A := 0) rfl (by decide) (b_ieq_t (pc := 5) rw_179_5 (A := 0) rfl (by decide) (to_c (pc := 22) rw_179_22 (x := (0 : Int32)) rfl rfl (s_r1 (pc := 23) rw_179_23 (A := 0) rfl (by decide) (b_ieq_t (pc := 17) rw_245_17 (A := 0) rfl (by decide) (to_c (pc := 40) rw_245_40 (x := (-1 : Int32)) rfl rfl (to_r0 (pc := 41) rw_245_41 ?_)))))))
        have k_95 : (-1 : Int32).toInt = -1 := rfl
        exact h (-1 : Int32) M87 hG88 F89 
      · refine to_in (pc := 4) rw_178_4 rfl (to_an (pc := 5) rw_178_5 rfl ?_)
        have c_96 : M87.2.1 77 12 = (M.2.1 77 12) := (W_n W86 (by decide) rfl)
        have b_97 := g_b hG (a := 77) (i := 12) (lo := 0) (hi := 8) rfl rfl
        refine tt_gI (pc := 6) rw_178_6 (g_o hG88 rfl) (v := (M.2.1 77 12)) c_96 (b_cge (pc := 9) rw_178_9 (A := f.toInt) (B := (M.2.1 77 12).toInt) rfl rfl (fun h98 => ?_) (fun h98 => ?_))
        · refine to_c (pc := 16) rw_178_16 (x := (0 : Int32)) rfl rfl (s_r1 (pc := 17) rw_178_17 (A := 0) rfl (by decide) (b_ieq_t (pc := 5) rw_179_5 (A := 0) rfl (by decide) (to_c (pc := 22) rw_179_22 (x := (0 : Int32)) rfl rfl (s_r1 (pc := 23) rw_179_23 (A := 0) rfl (by decide) (b_ieq_t (pc := 17) rw_245_17 (A := 0) rfl (by decide) (to_c (pc := 40) rw_245_40 (x := (-1 : Int32)) rfl rfl (to_r0 (pc := 41) rw_245_41 ?_)))))))
          have k_99 : (-1 : Int32).toInt = -1 := rfl
          exact h (-1 : Int32) M87 hG88 F89 
        · refine to_c (pc := 12) rw_178_12 (x := (1 : Int32)) rfl rfl (to_go (pc := 13) rw_178_13 (s_r1 (pc := 17) rw_178_17 (A := 1) rfl (by decide) (b_ieq_f (pc := 5) rw_179_5 (A := 1) rfl (by decide) (to_an (pc := 8) rw_179_8 rfl (s_gR (pc := 9) rw_179_9 hG88 rfl (v := 81) rfl (to_in (pc := 12) rw_179_12 rfl (s_ial (pc := 13) rw_179_13 hG88 rfl (n := 16) rfl rfl (A := f.toInt) rfl (by omega) (by omega) (lo := 0) (hi := 3) rfl rfl (fun v100 w_101 _ _ => ?_))))))))
          have t_102 := congrArg Int32.toInt w_101
          have j_104 := (FA_f (fun a i z => W_n W86 (tg_94 a i z) rfl) q2)
          have j_103 := FA_u j_104 (f.toInt).toNat
          have t_105 : (M87.2.1 81 (f.toInt).toNat).toInt = (M.2.1 81 (f.toInt).toNat).toInt := congrArg Int32.toInt (W_n W86 (by omega) rfl)
          have t_106 : (M87.2.1 84 (f.toInt).toNat).toInt = (M.2.1 84 (f.toInt).toNat).toInt := congrArg Int32.toInt (W_n W86 (by omega) rfl)
          have j_107 := FA_u q2 (f.toInt).toNat
          refine to_c (pc := 14) rw_179_14 (x := (3 : Int32)) rfl rfl (b_ceq (pc := 15) rw_179_15 (A := v100.toInt) (B := 3) rfl rfl (fun h108 => ?_) (fun h108 => ?_))
          · refine to_c (pc := 22) rw_179_22 (x := (0 : Int32)) rfl rfl (s_r1 (pc := 23) rw_179_23 (A := 0) rfl (by decide) (b_ieq_t (pc := 17) rw_245_17 (A := 0) rfl (by decide) (to_c (pc := 40) rw_245_40 (x := (-1 : Int32)) rfl rfl (to_r0 (pc := 41) rw_245_41 ?_))))
            have k_109 : (-1 : Int32).toInt = -1 := rfl
            exact h (-1 : Int32) M87 hG88 F89 
          · refine to_c (pc := 18) rw_179_18 (x := (1 : Int32)) rfl rfl (to_go (pc := 19) rw_179_19 (s_r1 (pc := 23) rw_179_23 (A := 1) rfl (by decide) (b_ieq_f (pc := 17) rw_245_17 (A := 1) rfl (by decide) (to_an (pc := 20) rw_245_20 rfl (to_in (pc := 21) rw_245_21 rfl (s_v (pc := 22) rw_245_22 (dp0 hd (by decide)) (ls0 := [.ref 77, .int f]) rfl (Nat.le_of_ble_eq_true rfl) (Nat.le_of_ble_eq_true rfl) rfl (to_rc rfl rfl rfl (g_o hG88 rfl)) rfl (to_an (pc := 0) rw_197_0 rfl (s_gR (pc := 1) rw_197_1 hG88 rfl (v := 83) rfl (to_in (pc := 4) rw_197_4 rfl (s_ial (pc := 5) rw_197_5 hG88 rfl (n := 16) rfl rfl (A := f.toInt) rfl (by omega) (by omega) (lo := 0) (hi := 63) rfl rfl (fun v110 w_111 _ _ => ?_)))))))))))
            have t_112 := congrArg Int32.toInt w_111
            have t_113 : (M87.2.1 82 (f.toInt).toNat).toInt = (M.2.1 82 (f.toInt).toNat).toInt := congrArg Int32.toInt (W_n W86 (by omega) rfl)
            have t_114 : (M87.2.1 83 (f.toInt).toNat).toInt = (M.2.1 83 (f.toInt).toNat).toInt := congrArg Int32.toInt (W_n W86 (by omega) rfl)
            refine to_an (pc := 6) rw_197_6 rfl (s_gR (pc := 7) rw_197_7 hG88 rfl (v := 82) rfl (to_in (pc := 10) rw_197_10 rfl (s_ial (pc := 11) rw_197_11 hG88 rfl (n := 16) rfl rfl (A := f.toInt) rfl (by omega) (by omega) (lo := 0) (hi := 59) rfl rfl (fun v115 w_116 _ _ => ?_))))
            have t_117 := congrArg Int32.toInt w_116
            have t_118 : (M87.2.1 82 (f.toInt).toNat).toInt = (M.2.1 82 (f.toInt).toNat).toInt := congrArg Int32.toInt (W_n W86 (by omega) rfl)
            have t_119 : (M87.2.1 83 (f.toInt).toNat).toInt = (M.2.1 83 (f.toInt).toNat).toInt := congrArg Int32.toInt (W_n W86 (by omega) rfl)
            refine s_sub (pc := 12) rw_197_12 (A := v110.toInt) (B := v115.toInt) rfl rfl (by omega) (fun v120 e121 => to_c (pc := 13) rw_197_13 (x := (1 : Int32)) rfl rfl (s_add (pc := 14) rw_197_14 (A := v120.toInt) (B := 1) rfl rfl (by omega) (fun v122 e123 => to_r0 (pc := 15) rw_197_15 (to_c (pc := 25) rw_245_25 (x := (6 : Int32)) rfl rfl (b_cgt (pc := 27) rw_245_27 (A := v122.toInt) (B := 6) rfl rfl (fun h124 => ?_) (fun h124 => ?_))))))
            · refine to_c (pc := 40) rw_245_40 (x := (-1 : Int32)) rfl rfl (to_r0 (pc := 41) rw_245_41 ?_)
              have k_125 : (-1 : Int32).toInt = -1 := rfl
              exact h (-1 : Int32) M87 hG88 F89 
            · refine to_in (pc := 30) rw_245_30 rfl (to_c (pc := 31) rw_245_31 (x := (0 : Int32)) rfl rfl (to_c (pc := 32) rw_245_32 (x := (6 : Int32)) rfl rfl (s_s (pc := 34) rw_245_34 (dp0 hd (by decide)) (ls0 := [.int w, .int (0 : Int32), .int (6 : Int32)]) rfl (Nat.le_of_ble_eq_true rfl) (Nat.le_of_ble_eq_true rfl) rfl (to_rcs rfl rfl) rfl (to_in (pc := 0) rw_149_0 rfl (to_in (pc := 1) rw_149_1 rfl (b_clt (pc := 2) rw_149_2 (A := w.toInt) (B := 0) rfl rfl (fun h126 => ?_) (fun h126 => ?_)))))))
              · refine to_c (pc := 14) rw_149_14 (x := (0 : Int32)) rfl rfl (s_r1 (pc := 15) rw_149_15 (A := 0) rfl (by decide) (b_ine_f (pc := 37) rw_245_37 (A := 0) rfl (by decide) (to_c (pc := 40) rw_245_40 (x := (-1 : Int32)) rfl rfl (to_r0 (pc := 41) rw_245_41 ?_))))
                have k_127 : (-1 : Int32).toInt = -1 := rfl
                exact h (-1 : Int32) M87 hG88 F89 
              · refine to_in (pc := 5) rw_149_5 rfl (to_in (pc := 6) rw_149_6 rfl (b_cgt (pc := 7) rw_149_7 (A := w.toInt) (B := 6) rfl rfl (fun h128 => ?_) (fun h128 => ?_)))
                · refine to_c (pc := 14) rw_149_14 (x := (0 : Int32)) rfl rfl (s_r1 (pc := 15) rw_149_15 (A := 0) rfl (by decide) (b_ine_f (pc := 37) rw_245_37 (A := 0) rfl (by decide) (to_c (pc := 40) rw_245_40 (x := (-1 : Int32)) rfl rfl (to_r0 (pc := 41) rw_245_41 ?_))))
                  have k_129 : (-1 : Int32).toInt = -1 := rfl
                  exact h (-1 : Int32) M87 hG88 F89 
                · refine to_c (pc := 10) rw_149_10 (x := (1 : Int32)) rfl rfl (to_go (pc := 11) rw_149_11 (s_r1 (pc := 15) rw_149_15 (A := 1) rfl (by decide) (b_ine_t (pc := 37) rw_245_37 (A := 1) rfl (by decide) (to_an (pc := 42) rw_245_42 rfl (to_an (pc := 43) rw_245_43 rfl ?_)))))
                  have c_130 : M87.2.1 77 29 = (M.2.1 77 29) := (W_n W86 (by decide) rfl)
                  have b_131 := g_b hG (a := 77) (i := 29) (lo := 0) (hi := 150) rfl rfl
                  refine tt_gI (pc := 44) rw_245_44 (g_o hG88 rfl) (v := (M.2.1 77 29)) c_130 (s_v (pc := 47) rw_245_47 (dp0 hd (by decide)) (ls0 := [.ref 77, .int (M.2.1 77 29), .null, .null]) rfl (Nat.le_of_ble_eq_true rfl) (Nat.le_of_ble_eq_true rfl) rfl (to_rc rfl rfl rfl (g_o hG88 rfl)) rfl ?_)
                  have t_132 : (M87.2.1 77 29).toInt = (M.2.1 77 29).toInt := congrArg Int32.toInt c_130
                  have j_133 := (NJ_f (fun a i z => W_n W86 (by /-r77,2-/ omega) rfl) q1)
                  refine C_189 hX (dp1 hd (by decide)) hG88 (by omega) (by omega) (by omega) j_133 (n := (M.2.1 77 29)) (fun M136 hG135 F134 => ?_)
                  have F137 := FR.c F89 F134 tg_362
                  refine to_an (pc := 50) rw_245_50 rfl (to_in (pc := 51) rw_245_51 rfl (s_v (pc := 52) rw_245_52 (dp0 hd (by decide)) (ls0 := [.ref 77, .int f]) rfl (Nat.le_of_ble_eq_true rfl) (Nat.le_of_ble_eq_true rfl) rfl (to_rc rfl rfl rfl (g_o hG135 rfl)) rfl (to_an (pc := 0) rw_197_0 rfl (s_gR (pc := 1) rw_197_1 hG135 rfl (v := 83) rfl (to_in (pc := 4) rw_197_4 rfl (s_ialk (pc := 5) rw_197_5 hG135 rfl (n := 16) rfl rfl (A := f.toInt) rfl (by omega) (by omega) (v := v110) (F_n F134 (show ¬ (94 ≤ 83 ∧ 83 ≤ 98) by decide) w_111) (to_an (pc := 6) rw_197_6 rfl (s_gR (pc := 7) rw_197_7 hG135 rfl (v := 82) rfl (to_in (pc := 10) rw_197_10 rfl (s_ialk (pc := 11) rw_197_11 hG135 rfl (n := 16) rfl rfl (A := f.toInt) rfl (by omega) (by omega) (v := v115) (F_n F134 (show ¬ (94 ≤ 82 ∧ 82 ≤ 98) by decide) w_116) (s_sub (pc := 12) rw_197_12 (A := v110.toInt) (B := v115.toInt) rfl rfl (by omega) (fun v142 e143 => ?_))))))))))))
                  refine to_c (pc := 13) rw_197_13 (x := (1 : Int32)) rfl rfl (s_add (pc := 14) rw_197_14 (A := v142.toInt) (B := 1) rfl rfl (by omega) (fun v144 e145 => to_r0 (pc := 15) rw_197_15 (to_is (pc := 55) rw_245_55 (ls2 := [.ref 77, .int p, .int f, .int w, .int v144, .null, .null]) rfl rfl (to_c (pc := 57) rw_245_57 (x := (0 : Int32)) rfl rfl (to_is (pc := 58) rw_245_58 (ls2 := [.ref 77, .int p, .int f, .int w, .int v144, .int (0 : Int32), .null]) rfl rfl ?_)))))
                  have k_146 : (0 : Int32).toInt = 0 := rfl
                  exact (T_245_1 (p := p) (f := f) (w := w) hX hd q1 q2 h (((30 - (0 : Int32).toInt) * 100 + 50).toNat + 1)).1 M136 v144 (0 : Int32) (.null) hG135 F137 (by omega) (by omega) (by omega) (by omega) (by omega) (by omega) (by omega) (by omega) (by omega) (by omega) (by omega)
