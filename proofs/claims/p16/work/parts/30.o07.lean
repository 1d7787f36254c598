theorem tg_153 : ∀ a i : Nat, (a < 0) → (a = 71 ∨ a = 76) := fun a i z => by omega
theorem tg_154 : ∀ a i : Nat, (43 ≤ a ∧ a ≤ 48) → (43 ≤ a ∧ a ≤ 48) := fun a i z => by omega
theorem tg_155 : ∀ a i : Nat, (a < 0) → (43 ≤ a ∧ a ≤ 48) := fun a i z => by omega
theorem tg_156 : ∀ a i : Nat, (a < 0) → (42 ≤ a ∧ a ≤ 48) := fun a i z => by omega
theorem tg_157 : ∀ a i : Nat, (43 ≤ a ∧ a ≤ 48) → (42 ≤ a ∧ a ≤ 48) := fun a i z => by omega
set_option maxRecDepth 4000 in
set_option maxHeartbeats 0 in
theorem T_66_0 {X : mm_X} {d : Nat} {M : mm_M} {Q : Option Value → mm_M → Prop} {q : Nat} {p : Nat} {c : Int32} {k : Int32} (hX : g_X X) (hd : 3 ≤ d) (hq : q = 67 ∨ q = 72) (hp : p = 49 ∨ p = 58) (q1 : c.toInt ≤ 30) (q2 : 0 ≤ k.toInt) (q3 : k.toInt ≤ 39) (h : ∀ (r : Int32) (M1 : mm_M), g_G M1 → FR md_0 M M1 → Q (some (.int r)) M1) : ∀ nn9 : Nat, (∀ (N : mm_M) (u0 : Value) (u1 : Value) (u4 : Value) (u5 : Value) (y6 : Int64) (x8 : Int32) (x9 : Int32), g_G N → FR md_0 M N → (0 ≤ x9.toInt) → (x9.toInt ≤ 30) → 30 - x9.toInt < (nn9 : Int) → mm_T X d 66 64 [u0, u1, .ref 11, .int c, u4, u5, .long y6, .null, .int x8, .int x9] [] N Q) := by
  intro nn9
  induction nn9 with
  | zero =>
    intro N u0 u1 u4 u5 y6 x8 x9 hG F0 g1 g2 hm
    exfalso; omega
  | succ nn9 ih =>
    intro N u0 u1 u4 u5 y6 x8 x9 hG F0 g1 g2 hm
    refine to_i (pc := 64) rw_66_64 rfl (to_in (pc := 66) rw_66_66 rfl (b_cge (pc := 67) rw_66_67 (A := x9.toInt) (B := c.toInt) rfl rfl (fun h1 => ?_) (fun h1 => ?_)))
    · refine to_i (pc := 96) rw_66_96 rfl (to_r0 (pc := 98) rw_66_98 ?_)
      exact h x8 N hG F0 
    · refine to_an (pc := 70) rw_66_70 rfl (to_i (pc := 71) rw_66_71 rfl (to_l (pc := 73) rw_66_73 rfl rfl rfl (s_v (pc := 75) rw_66_75 (dp0 hd (by decide)) (ls0 := [.ref 11, .int x9, .long y6, .null]) rfl (Nat.le_of_ble_eq_true rfl) (Nat.le_of_ble_eq_true rfl) rfl (to_rc rfl rfl rfl (g_o hG rfl)) rfl (to_an (pc := 0) rw_14_0 rfl (s_gR (pc := 1) rw_14_1 hG rfl (v := 12) rfl (to_in (pc := 4) rw_14_4 rfl (s_lal (pc := 5) rw_14_5 hG rfl (n := 30) rfl (A := x9.toInt) rfl (by omega) (by omega) (fun l2 => to_ln (pc := 6) rw_14_6 rfl rfl rfl (s_anyL (pc := 7) rw_14_7 (fun _ _ => rfl) (fun l3 => to_ln (pc := 8) rw_14_8 rfl rfl rfl (s_lcmp (pc := 9) rw_14_9 (fun v4 => ?_))))))))))))
      refine b_ine (pc := 10) rw_14_10 (A := v4.toInt) rfl (fun h5 => ?_) (fun h5 => ?_)
      · refine to_c (pc := 17) rw_14_17 (x := (0 : Int32)) rfl rfl (s_r1 (pc := 18) rw_14_18 (A := 0) rfl (by decide) (b_ieq_t (pc := 78) rw_66_78 (A := 0) rfl (by decide) (s_inc (pc := 90) rw_66_90 (ls2 := fun v => [u0, u1, .ref 11, .int c, u4, u5, .long y6, .null, .int x8, .int v]) rfl rfl (fun _ => rfl) (A := x9.toInt) (B := 1) rfl rfl (by omega) (fun v6 e7 => to_go (pc := 93) rw_66_93 ?_))))
        exact ih N (u0) (u1) (u4) (u5) y6 x8 v6 hG F0 (by omega) (by omega) (by omega)
      · refine to_c (pc := 13) rw_14_13 (x := (1 : Int32)) rfl rfl (to_go (pc := 14) rw_14_14 (s_r1 (pc := 18) rw_14_18 (A := 1) rfl (by decide) (b_ieq_f (pc := 78) rw_66_78 (A := 1) rfl (by decide) (to_i (pc := 81) rw_66_81 rfl (to_c (pc := 83) rw_66_83 (x := (1 : Int32)) rfl rfl (to_i (pc := 84) rw_66_84 rfl (s_any (pc := 86) rw_66_86 (fun _ _ => rfl) (fun v8 => s_any (pc := 87) rw_66_87 (fun _ _ => rfl) (fun v9 => to_is (pc := 88) rw_66_88 (ls2 := [u0, u1, .ref 11, .int c, u4, u5, .long y6, .null, .int v9, .int x9]) rfl rfl (s_inc (pc := 90) rw_66_90 (ls2 := fun v => [u0, u1, .ref 11, .int c, u4, u5, .long y6, .null, .int v9, .int v]) rfl rfl (fun _ => rfl) (A := x9.toInt) (B := 1) rfl rfl (by omega) (fun v10 e11 => to_go (pc := 93) rw_66_93 ?_)))))))))))
        exact ih N (u0) (u1) (u4) (u5) y6 v9 v10 hG F0 (by omega) (by omega) (by omega)
set_option maxRecDepth 4000 in
set_option maxHeartbeats 0 in
theorem C_66 {X : mm_X} {d : Nat} {M : mm_M} {Q : Option Value → mm_M → Prop} {q : Nat} {p : Nat} {c : Int32} {k : Int32} (hX : g_X X) (hd : 3 ≤ d) (hG : g_G M) (hq : q = 67 ∨ q = 72) (hp : p = 49 ∨ p = 58) (q1 : c.toInt ≤ 30) (q2 : 0 ≤ k.toInt) (q3 : k.toInt ≤ 39) (h : ∀ (r : Int32) (M1 : mm_M), g_G M1 → FR md_0 M M1 → Q (some (.int r)) M1) : mm_T X d 66 0 [.ref q, .ref p, .ref 11, .int c, .int k, .null, .null, .null, .null, .null] [] M Q := by
  have F0 : FR md_0 M M := FR.rf
  refine to_an (pc := 0) rw_66_0 rfl (s_gR (pc := 1) rw_66_1 hG (by rcases hq with rfl | rfl <;> rfl) (v := (q + 1)) (by rcases hq with rfl | rfl <;> rfl) (to_i (pc := 4) rw_66_4 rfl (s_ial (pc := 6) rw_66_6 hG (by rcases hq with rfl | rfl <;> rfl) (n := 40) (by rcases hq with rfl | rfl <;> rfl) (by rcases hq with rfl | rfl <;> rfl) (A := k.toInt) rfl (by omega) (by omega) (lo := 0) (hi := 4) (by rcases hq with rfl | rfl <;> rfl) (by rcases hq with rfl | rfl <;> rfl) (fun v12 w_13 _ _ => to_c (pc := 7) rw_66_7 (x := (1 : Int32)) rfl rfl (b_cne (pc := 8) rw_66_8 (A := v12.toInt) (B := 1) rfl rfl (fun h14 => ?_) (fun h14 => ?_))))))
  · refine to_c (pc := 15) rw_66_15 (x := (0 : Int32)) rfl rfl (to_is (pc := 16) rw_66_16 (ls2 := [.ref q, .ref p, .ref 11, .int c, .int k, .int (0 : Int32), .null, .null, .null, .null]) rfl rfl (to_i (pc := 18) rw_66_18 rfl (b_ieq_t (pc := 20) rw_66_20 (A := 0) rfl (by decide) (to_an (pc := 38) rw_66_38 rfl (to_an (pc := 39) rw_66_39 rfl (s_gR (pc := 40) rw_66_40 hG (by rcases hq with rfl | rfl <;> rfl) (v := (q + 2)) (by rcases hq with rfl | rfl <;> rfl) (to_i (pc := 43) rw_66_43 rfl (s_ial (pc := 45) rw_66_45 hG (by rcases hq with rfl | rfl <;> rfl) (n := 40) (by rcases hq with rfl | rfl <;> rfl) (by rcases hq with rfl | rfl <;> rfl) (A := k.toInt) rfl (by omega) (by omega) (lo := 0) (hi := 11) (by rcases hq with rfl | rfl <;> rfl) (by rcases hq with rfl | rfl <;> rfl) (fun v15 w_16 _ _ => to_an (pc := 46) rw_66_46 rfl (s_gR (pc := 47) rw_66_47 hG (by rcases hq with rfl | rfl <;> rfl) (v := (q + 3)) (by rcases hq with rfl | rfl <;> rfl) (to_i (pc := 50) rw_66_50 rfl ?_)))))))))))
    refine s_ial (pc := 52) rw_66_52 hG (by rcases hq with rfl | rfl <;> rfl) (n := 40) (by rcases hq with rfl | rfl <;> rfl) (by rcases hq with rfl | rfl <;> rfl) (A := k.toInt) rfl (by omega) (by omega) (lo := -2147483648) (hi := 2147483647) (by rcases hq with rfl | rfl <;> rfl) (by rcases hq with rfl | rfl <;> rfl) (fun v17 w_18 _ _ => s_v (pc := 53) rw_66_53 (dp0 hd (by decide)) (ls0 := [.ref p, .int v15, .int v17, .null, .null]) rfl (Nat.le_of_ble_eq_true rfl) (Nat.le_of_ble_eq_true rfl) rfl (to_rc rfl rfl rfl (g_o hG (by rcases hp with rfl | rfl <;> rfl))) rfl (C_49 hX (dp1 hd (by decide)) hG hp (p := p) (f := v15) (v := v17) (fun r19 M22 hG21 F20 => ?_)))
    have F23 := FR.c F0 F20 tg_29
    refine to_ls (pc := 56) rw_66_56 (ls2 := [.ref q, .ref p, .ref 11, .int c, .int k, .int (0 : Int32), .long r19, .null, .null, .null]) rfl rfl (to_c (pc := 58) rw_66_58 (x := (0 : Int32)) rfl rfl (to_is (pc := 59) rw_66_59 (ls2 := [.ref q, .ref p, .ref 11, .int c, .int k, .int (0 : Int32), .long r19, .null, .int (0 : Int32), .null]) rfl rfl (to_c (pc := 61) rw_66_61 (x := (0 : Int32)) rfl rfl (to_is (pc := 62) rw_66_62 (ls2 := [.ref q, .ref p, .ref 11, .int c, .int k, .int (0 : Int32), .long r19, .null, .int (0 : Int32), .int (0 : Int32)]) rfl rfl ?_))))
    have k_24 : (0 : Int32).toInt = 0 := rfl
    exact (T_66_0 (q := q) (p := p) (c := c) (k := k) hX hd hq hp q1 q2 q3 h ((30 - (0 : Int32).toInt).toNat + 1)) M22 (.ref q) (.ref p) (.int k) (.int (0 : Int32)) r19 (0 : Int32) (0 : Int32) hG21 F23 (by omega) (by omega) (by omega)
  · refine to_c (pc := 11) rw_66_11 (x := (1 : Int32)) rfl rfl (to_go (pc := 12) rw_66_12 (to_is (pc := 16) rw_66_16 (ls2 := [.ref q, .ref p, .ref 11, .int c, .int k, .int (1 : Int32), .null, .null, .null, .null]) rfl rfl (to_i (pc := 18) rw_66_18 rfl (b_ieq_f (pc := 20) rw_66_20 (A := 1) rfl (by decide) (to_an (pc := 23) rw_66_23 rfl (s_gR (pc := 24) rw_66_24 hG rfl (v := 15) rfl (to_an (pc := 27) rw_66_27 rfl (s_gR (pc := 28) rw_66_28 hG (by rcases hq with rfl | rfl <;> rfl) (v := (q + 2)) (by rcases hq with rfl | rfl <;> rfl) (to_i (pc := 31) rw_66_31 rfl (s_ial (pc := 33) rw_66_33 hG (by rcases hq with rfl | rfl <;> rfl) (n := 40) (by rcases hq with rfl | rfl <;> rfl) (by rcases hq with rfl | rfl <;> rfl) (A := k.toInt) rfl (by omega) (by omega) (lo := 0) (hi := 11) (by rcases hq with rfl | rfl <;> rfl) (by rcases hq with rfl | rfl <;> rfl) (fun v25 w_26 _ _ => s_lal (pc := 34) rw_66_34 hG rfl (n := 12) rfl (A := v25.toInt) rfl (by omega) (by omega) (fun l27 => ?_))))))))))))
    refine to_go (pc := 35) rw_66_35 (to_ls (pc := 56) rw_66_56 (ls2 := [.ref q, .ref p, .ref 11, .int c, .int k, .int (1 : Int32), .long l27, .null, .null, .null]) rfl rfl (to_c (pc := 58) rw_66_58 (x := (0 : Int32)) rfl rfl (to_is (pc := 59) rw_66_59 (ls2 := [.ref q, .ref p, .ref 11, .int c, .int k, .int (1 : Int32), .long l27, .null, .int (0 : Int32), .null]) rfl rfl (to_c (pc := 61) rw_66_61 (x := (0 : Int32)) rfl rfl (to_is (pc := 62) rw_66_62 (ls2 := [.ref q, .ref p, .ref 11, .int c, .int k, .int (1 : Int32), .long l27, .null, .int (0 : Int32), .int (0 : Int32)]) rfl rfl ?_)))))
    have k_28 : (0 : Int32).toInt = 0 := rfl
    exact (T_66_0 (q := q) (p := p) (c := c) (k := k) hX hd hq hp q1 q2 q3 h ((30 - (0 : Int32).toInt).toNat + 1)) M (.ref q) (.ref p) (.int k) (.int (1 : Int32)) l27 (0 : Int32) (0 : Int32) hG F0 (by omega) (by omega) (by omega)
set_option maxRecDepth 4000 in
set_option maxHeartbeats 0 in
theorem T_67_0 {X : mm_X} {d : Nat} {M : mm_M} {Q : Option Value → mm_M → Prop} {q : Nat} {c : Int32} {k : Int32} (hX : g_X X) (hd : 1 ≤ d) (hq : q = 67 ∨ q = 72) (q1 : c.toInt ≤ 30) (q2 : 0 ≤ k.toInt) (q3 : k.toInt ≤ 39) (q4 : (M.2.1 (q + 1) (k.toInt).toNat).toInt ≤ 1) (q5 : QI M) (h : ∀ (r : Int32) (M1 : mm_M), g_G M1 → FR md_0 M M1 → Q (some (.int r)) M1) : ∀ nn9 : Nat, (∀ (N : mm_M) (x4 : Int32) (x5 : Int32) (x6 : Int32) (u7 : Value), g_G N → FR md_0 M N → (0 ≤ x6.toInt) → (x6.toInt ≤ 30) → (0 ≤ x4.toInt) → (x4.toInt ≤ 1) → (x4.toInt = 0 → (N.2.1 (q + 1) (k.toInt).toNat).toInt = 0) → (QI N) → 30 - x6.toInt < (nn9 : Int) → mm_T X d 67 23 [.ref q, .ref 11, .int c, .int k, .int x4, .int x5, .int x6, u7] [] N Q) := by
  intro nn9
  induction nn9 with
  | zero =>
    intro N x4 x5 x6 u7 hG F0 g1 g2 g3 g4 g5 g6 hm
    exfalso; omega
  | succ nn9 ih =>
    intro N x4 x5 x6 u7 hG F0 g1 g2 g3 g4 g5 g6 hm
    refine to_i (pc := 23) rw_67_23 rfl (to_in (pc := 25) rw_67_25 rfl (b_cge (pc := 26) rw_67_26 (A := x6.toInt) (B := c.toInt) rfl rfl (fun h1 => ?_) (fun h1 => ?_)))
    · refine to_i (pc := 97) rw_67_97 rfl (to_r0 (pc := 99) rw_67_99 ?_)
      exact h x5 N hG F0 
    · refine to_i (pc := 29) rw_67_29 rfl (b_ieq (pc := 31) rw_67_31 (A := x4.toInt) rfl (fun h2 => ?_) (fun h2 => ?_))
      · refine to_an (pc := 49) rw_67_49 rfl (to_i (pc := 50) rw_67_50 rfl (to_an (pc := 52) rw_67_52 rfl (s_gR (pc := 53) rw_67_53 hG (by rcases hq with rfl | rfl <;> rfl) (v := (q + 2)) (by rcases hq with rfl | rfl <;> rfl) (to_in (pc := 56) rw_67_56 rfl (s_ial (pc := 57) rw_67_57 hG (by rcases hq with rfl | rfl <;> rfl) (n := 40) (by rcases hq with rfl | rfl <;> rfl) (by rcases hq with rfl | rfl <;> rfl) (A := k.toInt) rfl (by omega) (by omega) (lo := 0) (hi := 11) (by rcases hq with rfl | rfl <;> rfl) (by rcases hq with rfl | rfl <;> rfl) (fun v3 w_4 _ _ => ?_))))))
        have t_5 := congrArg Int32.toInt w_4
        have j_6 := QI_u g6 hq (k.toInt).toNat
        refine s_v (pc := 58) rw_67_58 (dp0 hd (by decide)) (ls0 := [.ref 11, .int x6, .int v3]) rfl (Nat.le_of_ble_eq_true rfl) (Nat.le_of_ble_eq_true rfl) rfl (to_rc rfl rfl rfl (g_o hG rfl)) rfl (to_an (pc := 0) rw_12_0 rfl (s_gR (pc := 1) rw_12_1 hG rfl (v := 14) rfl (to_in (pc := 4) rw_12_4 rfl (to_c (pc := 5) rw_12_5 (x := (8 : Int32)) rfl rfl (s_mul (pc := 7) rw_12_7 (A := x6.toInt) (B := 8) rfl rfl (by omega) (fun v7 e8 => to_in (pc := 8) rw_12_8 rfl (s_add (pc := 9) rw_12_9 (A := v7.toInt) (B := v3.toInt) rfl rfl (by omega) (fun v9 e10 => s_ial (pc := 10) rw_12_10 hG rfl (n := 240) rfl rfl (A := v9.toInt) rfl (by omega) (by omega) (lo := -2147483648) (hi := 2147483647) rfl rfl (fun v11 w_12 _ _ => to_r0 (pc := 11) rw_12_11 (to_an (pc := 61) rw_67_61 rfl (s_gR (pc := 62) rw_67_62 hG (by rcases hq with rfl | rfl <;> rfl) (v := (q + 3)) (by rcases hq with rfl | rfl <;> rfl) ?_)))))))))))
        refine to_in (pc := 65) rw_67_65 rfl (s_ial (pc := 66) rw_67_66 hG (by rcases hq with rfl | rfl <;> rfl) (n := 40) (by rcases hq with rfl | rfl <;> rfl) (by rcases hq with rfl | rfl <;> rfl) (A := k.toInt) rfl (by omega) (by omega) (lo := -2147483648) (hi := 2147483647) (by rcases hq with rfl | rfl <;> rfl) (by rcases hq with rfl | rfl <;> rfl) (fun v13 w_14 _ _ => b_cne (pc := 67) rw_67_67 (A := v11.toInt) (B := v13.toInt) rfl rfl (fun h15 => ?_) (fun h15 => ?_)))
        · refine to_c (pc := 74) rw_67_74 (x := (0 : Int32)) rfl rfl (to_is (pc := 75) rw_67_75 (ls2 := [.ref q, .ref 11, .int c, .int k, .int x4, .int x5, .int x6, .int (0 : Int32)]) rfl rfl (to_i (pc := 77) rw_67_77 rfl (b_ieq_t (pc := 79) rw_67_79 (A := 0) rfl (by decide) (s_inc (pc := 91) rw_67_91 (ls2 := fun v => [.ref q, .ref 11, .int c, .int k, .int x4, .int x5, .int v, .int (0 : Int32)]) rfl rfl (fun _ => rfl) (A := x6.toInt) (B := 1) rfl rfl (by omega) (fun v16 e17 => to_go (pc := 94) rw_67_94 ?_)))))
          exact ih N x4 x5 v16 (.int (0 : Int32)) hG F0 (by omega) (by omega) (by omega) (by omega) (by omega) g6 (by omega)
        · refine to_c (pc := 70) rw_67_70 (x := (1 : Int32)) rfl rfl (to_go (pc := 71) rw_67_71 (to_is (pc := 75) rw_67_75 (ls2 := [.ref q, .ref 11, .int c, .int k, .int x4, .int x5, .int x6, .int (1 : Int32)]) rfl rfl (to_i (pc := 77) rw_67_77 rfl (b_ieq_f (pc := 79) rw_67_79 (A := 1) rfl (by decide) (to_i (pc := 82) rw_67_82 rfl (to_c (pc := 84) rw_67_84 (x := (1 : Int32)) rfl rfl (to_i (pc := 85) rw_67_85 rfl (s_any (pc := 87) rw_67_87 (fun _ _ => rfl) (fun v18 => s_any (pc := 88) rw_67_88 (fun _ _ => rfl) (fun v19 => to_is (pc := 89) rw_67_89 (ls2 := [.ref q, .ref 11, .int c, .int k, .int x4, .int v19, .int x6, .int (1 : Int32)]) rfl rfl (s_inc (pc := 91) rw_67_91 (ls2 := fun v => [.ref q, .ref 11, .int c, .int k, .int x4, .int v19, .int v, .int (1 : Int32)]) rfl rfl (fun _ => rfl) (A := x6.toInt) (B := 1) rfl rfl (by omega) (fun v20 e21 => ?_))))))))))))
          refine to_go (pc := 94) rw_67_94 ?_
          exact ih N x4 v19 v20 (.int (1 : Int32)) hG F0 (by omega) (by omega) (by omega) (by omega) (by omega) g6 (by omega)
      · refine to_an (pc := 34) rw_67_34 rfl (to_i (pc := 35) rw_67_35 rfl (to_an (pc := 37) rw_67_37 rfl (s_gR (pc := 38) rw_67_38 hG (by rcases hq with rfl | rfl <;> rfl) (v := (q + 2)) (by rcases hq with rfl | rfl <;> rfl) (to_in (pc := 41) rw_67_41 rfl (s_ial (pc := 42) rw_67_42 hG (by rcases hq with rfl | rfl <;> rfl) (n := 40) (by rcases hq with rfl | rfl <;> rfl) (by rcases hq with rfl | rfl <;> rfl) (A := k.toInt) rfl (by omega) (by omega) (lo := 0) (hi := 11) (by rcases hq with rfl | rfl <;> rfl) (by rcases hq with rfl | rfl <;> rfl) (fun v22 w_23 _ _ => ?_))))))
        have t_24 := congrArg Int32.toInt w_23
        have j_25 := QI_u g6 hq (k.toInt).toNat
        refine s_v (pc := 43) rw_67_43 (dp0 hd (by decide)) (ls0 := [.ref 11, .int x6, .int v22]) rfl (Nat.le_of_ble_eq_true rfl) (Nat.le_of_ble_eq_true rfl) rfl (to_rc rfl rfl rfl (g_o hG rfl)) rfl (to_an (pc := 0) rw_13_0 rfl (s_gR (pc := 1) rw_13_1 hG rfl (v := 13) rfl (to_in (pc := 4) rw_13_4 rfl (s_ial (pc := 5) rw_13_5 hG rfl (n := 30) rfl rfl (A := x6.toInt) rfl (by omega) (by omega) (lo := -2147483648) (hi := 2147483647) rfl rfl (fun v26 w_27 _ _ => to_in (pc := 6) rw_13_6 rfl (s_any (pc := 7) rw_13_7 (fun _ _ => rfl) (fun v28 => to_c (pc := 8) rw_13_8 (x := (1 : Int32)) rfl rfl (s_and (pc := 9) rw_13_9 (B := 1) rfl (by omega) (fun v29 e30 _ _ => b_ieq (pc := 10) rw_13_10 (A := v29.toInt) rfl (fun h31 => ?_) (fun h31 => ?_))))))))))
        · refine to_c (pc := 17) rw_13_17 (x := (0 : Int32)) rfl rfl (s_r1 (pc := 18) rw_13_18 (A := 0) rfl (by decide) (to_go (pc := 46) rw_67_46 (to_is (pc := 75) rw_67_75 (ls2 := [.ref q, .ref 11, .int c, .int k, .int x4, .int x5, .int x6, .int (0 : Int32)]) rfl rfl (to_i (pc := 77) rw_67_77 rfl (b_ieq_t (pc := 79) rw_67_79 (A := 0) rfl (by decide) (s_inc (pc := 91) rw_67_91 (ls2 := fun v => [.ref q, .ref 11, .int c, .int k, .int x4, .int x5, .int v, .int (0 : Int32)]) rfl rfl (fun _ => rfl) (A := x6.toInt) (B := 1) rfl rfl (by omega) (fun v32 e33 => to_go (pc := 94) rw_67_94 ?_)))))))
          exact ih N x4 x5 v32 (.int (0 : Int32)) hG F0 (by omega) (by omega) (by omega) (by omega) (by omega) g6 (by omega)
        · refine to_c (pc := 13) rw_13_13 (x := (1 : Int32)) rfl rfl (to_go (pc := 14) rw_13_14 (s_r1 (pc := 18) rw_13_18 (A := 1) rfl (by decide) (to_go (pc := 46) rw_67_46 (to_is (pc := 75) rw_67_75 (ls2 := [.ref q, .ref 11, .int c, .int k, .int x4, .int x5, .int x6, .int (1 : Int32)]) rfl rfl (to_i (pc := 77) rw_67_77 rfl (b_ieq_f (pc := 79) rw_67_79 (A := 1) rfl (by decide) (to_i (pc := 82) rw_67_82 rfl (to_c (pc := 84) rw_67_84 (x := (1 : Int32)) rfl rfl (to_i (pc := 85) rw_67_85 rfl (s_any (pc := 87) rw_67_87 (fun _ _ => rfl) (fun v34 => s_any (pc := 88) rw_67_88 (fun _ _ => rfl) (fun v35 => ?_))))))))))))
          refine to_is (pc := 89) rw_67_89 (ls2 := [.ref q, .ref 11, .int c, .int k, .int x4, .int v35, .int x6, .int (1 : Int32)]) rfl rfl (s_inc (pc := 91) rw_67_91 (ls2 := fun v => [.ref q, .ref 11, .int c, .int k, .int x4, .int v35, .int v, .int (1 : Int32)]) rfl rfl (fun _ => rfl) (A := x6.toInt) (B := 1) rfl rfl (by omega) (fun v36 e37 => to_go (pc := 94) rw_67_94 ?_))
          exact ih N x4 v35 v36 (.int (1 : Int32)) hG F0 (by omega) (by omega) (by omega) (by omega) (by omega) g6 (by omega)
set_option maxRecDepth 4000 in
set_option maxHeartbeats 0 in
theorem C_67 {X : mm_X} {d : Nat} {M : mm_M} {Q : Option Value → mm_M → Prop} {q : Nat} {c : Int32} {k : Int32} (hX : g_X X) (hd : 1 ≤ d) (hG : g_G M) (hq : q = 67 ∨ q = 72) (q1 : c.toInt ≤ 30) (q2 : 0 ≤ k.toInt) (q3 : k.toInt ≤ 39) (q4 : (M.2.1 (q + 1) (k.toInt).toNat).toInt ≤ 1) (q5 : QI M) (h : ∀ (r : Int32) (M1 : mm_M), g_G M1 → FR md_0 M M1 → Q (some (.int r)) M1) : mm_T X d 67 0 [.ref q, .ref 11, .int c, .int k, .null, .null, .null, .null] [] M Q := by
  have F0 : FR md_0 M M := FR.rf
  refine to_an (pc := 0) rw_67_0 rfl (s_gR (pc := 1) rw_67_1 hG (by rcases hq with rfl | rfl <;> rfl) (v := (q + 1)) (by rcases hq with rfl | rfl <;> rfl) (to_in (pc := 4) rw_67_4 rfl (s_ial (pc := 5) rw_67_5 hG (by rcases hq with rfl | rfl <;> rfl) (n := 40) (by rcases hq with rfl | rfl <;> rfl) (by rcases hq with rfl | rfl <;> rfl) (A := k.toInt) rfl (by omega) (by omega) (lo := 0) (hi := 4) (by rcases hq with rfl | rfl <;> rfl) (by rcases hq with rfl | rfl <;> rfl) (fun v38 w_39 _ _ => ?_))))
  have t_40 := congrArg Int32.toInt w_39
  refine to_c (pc := 6) rw_67_6 (x := (1 : Int32)) rfl rfl (b_cne (pc := 7) rw_67_7 (A := v38.toInt) (B := 1) rfl rfl (fun h41 => ?_) (fun h41 => ?_))
  · refine to_c (pc := 14) rw_67_14 (x := (0 : Int32)) rfl rfl (to_is (pc := 15) rw_67_15 (ls2 := [.ref q, .ref 11, .int c, .int k, .int (0 : Int32), .null, .null, .null]) rfl rfl (to_c (pc := 17) rw_67_17 (x := (0 : Int32)) rfl rfl (to_is (pc := 18) rw_67_18 (ls2 := [.ref q, .ref 11, .int c, .int k, .int (0 : Int32), .int (0 : Int32), .null, .null]) rfl rfl (to_c (pc := 20) rw_67_20 (x := (0 : Int32)) rfl rfl (to_is (pc := 21) rw_67_21 (ls2 := [.ref q, .ref 11, .int c, .int k, .int (0 : Int32), .int (0 : Int32), .int (0 : Int32), .null]) rfl rfl ?_)))))
    have k_42 : (0 : Int32).toInt = 0 := rfl
    exact (T_67_0 (q := q) (c := c) (k := k) hX hd hq q1 q2 q3 q4 q5 h ((30 - (0 : Int32).toInt).toNat + 1)) M (0 : Int32) (0 : Int32) (0 : Int32) (.null) hG F0 (by omega) (by omega) (by omega) (by omega) (by omega) q5 (by omega)
  · refine to_c (pc := 10) rw_67_10 (x := (1 : Int32)) rfl rfl (to_go (pc := 11) rw_67_11 (to_is (pc := 15) rw_67_15 (ls2 := [.ref q, .ref 11, .int c, .int k, .int (1 : Int32), .null, .null, .null]) rfl rfl (to_c (pc := 17) rw_67_17 (x := (0 : Int32)) rfl rfl (to_is (pc := 18) rw_67_18 (ls2 := [.ref q, .ref 11, .int c, .int k, .int (1 : Int32), .int (0 : Int32), .null, .null]) rfl rfl (to_c (pc := 20) rw_67_20 (x := (0 : Int32)) rfl rfl (to_is (pc := 21) rw_67_21 (ls2 := [.ref q, .ref 11, .int c, .int k, .int (1 : Int32), .int (0 : Int32), .int (0 : Int32), .null]) rfl rfl ?_))))))
    have k_43 : (1 : Int32).toInt = 1 := rfl
    have k_44 : (0 : Int32).toInt = 0 := rfl
    exact (T_67_0 (q := q) (c := c) (k := k) hX hd hq q1 q2 q3 q4 q5 h ((30 - (0 : Int32).toInt).toNat + 1)) M (1 : Int32) (0 : Int32) (0 : Int32) (.null) hG F0 (by omega) (by omega) (by omega) (by omega) (by omega) q5 (by omega)
set_option maxRecDepth 4000 in
set_option maxHeartbeats 0 in
theorem T_65_0 {X : mm_X} {d : Nat} {M : mm_M} {Q : Option Value → mm_M → Prop} {q : Nat} {p : Nat} {c : Int32} {t : Int32} (hX : g_X X) (hd : 4 ≤ d) (hq : q = 67 ∨ q = 72) (hp : p = 49 ∨ p = 58) (q1 : 0 ≤ c.toInt) (q2 : c.toInt ≤ 30) (q3 : 0 ≤ t.toInt) (q4 : t.toInt ≤ 1) (q5 : QI M) (h : ∀ (r : Int32) (M1 : mm_M), g_G M1 → FR md_qa M M1 → Q (some (.int r)) M1) : ∀ nn9 : Nat, (∀ (N : mm_M) (x5 : Int32) (x6 : Int32) (x7 : Int32) (u8 : Value), g_G N → FR md_qa M N → (-1 ≤ x6.toInt) → (x6.toInt ≤ 39) → (x6.toInt + 1 ≤ x7.toInt) → (0 ≤ x7.toInt) → (x7.toInt ≤ 40) → (QI N) → 40 - x7.toInt < (nn9 : Int) → mm_T X d 65 16 [.ref q, .ref p, .ref 11, .int c, .int t, .int x5, .int x6, .int x7, u8] [] N Q) := by
  intro nn9
  induction nn9 with
  | zero =>
    intro N x5 x6 x7 u8 hG F0 g1 g2 g3 g4 g5 g6 hm
    exfalso; omega
  | succ nn9 ih =>
    intro N x5 x6 x7 u8 hG F0 g1 g2 g3 g4 g5 g6 hm
    refine to_i (pc := 16) rw_65_16 rfl (to_an (pc := 18) rw_65_18 rfl ?_)
    have b_1 := g_b hG (a := q) (i := 5) (lo := 0) (hi := 40) (by rcases hq with rfl | rfl <;> rfl) (by rcases hq with rfl | rfl <;> rfl)
    refine tt_gI (pc := 19) rw_65_19 (g_o hG (by rcases hq with rfl | rfl <;> rfl)) (v := (N.2.1 q 5)) rfl (b_cge (pc := 22) rw_65_22 (A := x7.toInt) (B := (N.2.1 q 5).toInt) rfl rfl (fun h2 => ?_) (fun h2 => ?_))
    · refine to_i (pc := 196) rw_65_196 rfl (b_ilt (pc := 198) rw_65_198 (A := x6.toInt) rfl (fun h3 => ?_) (fun h3 => ?_))
      · refine to_c (pc := 210) rw_65_210 (x := (0 : Int32)) rfl rfl (to_r0 (pc := 211) rw_65_211 ?_)
        have k_4 : (0 : Int32).toInt = 0 := rfl
        exact h (0 : Int32) N hG F0 
      · refine to_an (pc := 201) rw_65_201 rfl (s_gR (pc := 202) rw_65_202 hG (by rcases hq with rfl | rfl <;> rfl) (v := (q + 4)) (by rcases hq with rfl | rfl <;> rfl) (to_c (pc := 205) rw_65_205 (x := (0 : Int32)) rfl rfl (s_ial (pc := 206) rw_65_206 hG (by rcases hq with rfl | rfl <;> rfl) (n := 40) (by rcases hq with rfl | rfl <;> rfl) (by rcases hq with rfl | rfl <;> rfl) (A := 0) rfl (by omega) (by omega) (lo := -2147483648) (hi := 2147483647) (by rcases hq with rfl | rfl <;> rfl) (by rcases hq with rfl | rfl <;> rfl) (fun v5 w_6 _ _ => to_go (pc := 207) rw_65_207 (to_r0 (pc := 211) rw_65_211 ?_)))))
        exact h v5 N hG F0 
    · refine to_an (pc := 25) rw_65_25 rfl (s_gR (pc := 26) rw_65_26 hG (by rcases hq with rfl | rfl <;> rfl) (v := (q + 1)) (by rcases hq with rfl | rfl <;> rfl) (to_i (pc := 29) rw_65_29 rfl (s_ial (pc := 31) rw_65_31 hG (by rcases hq with rfl | rfl <;> rfl) (n := 40) (by rcases hq with rfl | rfl <;> rfl) (by rcases hq with rfl | rfl <;> rfl) (A := x7.toInt) rfl (by omega) (by omega) (lo := 0) (hi := 4) (by rcases hq with rfl | rfl <;> rfl) (by rcases hq with rfl | rfl <;> rfl) (fun v7 w_8 _ _ => ?_))))
      have t_9 := congrArg Int32.toInt w_8
      refine b_ieq (pc := 32) rw_65_32 (A := v7.toInt) rfl (fun h10 => ?_) (fun h10 => ?_)
      · refine s_inc (pc := 46) rw_65_46 (ls2 := fun v => [.ref q, .ref p, .ref 11, .int c, .int t, .int x5, .int v, .int x7, u8]) rfl rfl (fun _ => rfl) (A := x6.toInt) (B := 1) rfl rfl (by omega) (fun v11 e12 => to_an (pc := 49) rw_65_49 rfl (s_gR (pc := 50) rw_65_50 hG (by rcases hq with rfl | rfl <;> rfl) (v := (q + 4)) (by rcases hq with rfl | rfl <;> rfl) (to_i (pc := 53) rw_65_53 rfl (to_i (pc := 55) rw_65_55 rfl (b_ieq (pc := 57) rw_65_57 (A := t.toInt) rfl (fun h13 => ?_) (fun h13 => ?_))))))
        · refine to_an (pc := 71) rw_65_71 rfl (to_an (pc := 72) rw_65_72 rfl (to_an (pc := 73) rw_65_73 rfl (to_in (pc := 74) rw_65_74 rfl (to_i (pc := 75) rw_65_75 rfl (s_v (pc := 77) rw_65_77 (dp0 hd (by decide)) (ls0 := [.ref q, .ref p, .ref 11, .int c, .int x7, .null, .null, .null, .null, .null]) rfl (Nat.le_of_ble_eq_true rfl) (Nat.le_of_ble_eq_true rfl) rfl (to_rc rfl rfl rfl (g_o hG (by rcases hq with rfl | rfl <;> rfl))) rfl (C_66 hX (dp1 hd (by decide)) hG hq hp (by omega) (by omega) (by omega) (q := q) (p := p) (c := c) (k := x7) (fun r14 M17 hG16 F15 => ?_)))))))
          have F18 := FR.c F0 F15 tg_153
          refine s_ias (pc := 80) rw_65_80 hG16 (by rcases hq with rfl | rfl <;> rfl) (n := 40) (by rcases hq with rfl | rfl <;> rfl) (A := v11.toInt) rfl (by omega) (by omega) (fun M20 W19 => ?_)
          have hG21 := g_wf hG16 W19 (by rcases hq with rfl | rfl <;> rfl) (by rcases hq with rfl | rfl <;> rfl) (by omega)
          have F22 := FR.w F18 W19 (show (q + 4) = 71 ∨ (q + 4) = 76 by omega)
          refine to_go (pc := 81) rw_65_81 (s_inc (pc := 190) rw_65_190 (ls2 := fun v => [.ref q, .ref p, .ref 11, .int c, .int t, .int x5, .int v11, .int v, u8]) rfl rfl (fun _ => rfl) (A := x7.toInt) (B := 1) rfl rfl (by omega) (fun v23 e24 => to_go (pc := 193) rw_65_193 ?_))
          have j_25 := (QI_f (fun a i z => W_n W19 (by omega) rfl) (QI_f (tg_100 F15) g6))
          exact ih M20 x5 v11 v23 (u8) hG21 F22 (by omega) (by omega) (by omega) (by omega) (by omega) j_25 (by omega)
        · refine to_an (pc := 60) rw_65_60 rfl (to_an (pc := 61) rw_65_61 rfl (to_in (pc := 62) rw_65_62 rfl (to_i (pc := 63) rw_65_63 rfl (s_v (pc := 65) rw_65_65 (dp0 hd (by decide)) (ls0 := [.ref q, .ref 11, .int c, .int x7, .null, .null, .null, .null]) rfl (Nat.le_of_ble_eq_true rfl) (Nat.le_of_ble_eq_true rfl) rfl (to_rc rfl rfl rfl (g_o hG (by rcases hq with rfl | rfl <;> rfl))) rfl (C_67 hX (dp1 hd (by decide)) hG hq (by omega) (by omega) (by omega) (by omega) g6 (q := q) (c := c) (k := x7) (fun r26 M29 hG28 F27 => ?_))))))
          have F30 := FR.c F0 F27 tg_153
          refine to_go (pc := 68) rw_65_68 (s_ias (pc := 80) rw_65_80 hG28 (by rcases hq with rfl | rfl <;> rfl) (n := 40) (by rcases hq with rfl | rfl <;> rfl) (A := v11.toInt) rfl (by omega) (by omega) (fun M32 W31 => ?_))
          have hG33 := g_wf hG28 W31 (by rcases hq with rfl | rfl <;> rfl) (by rcases hq with rfl | rfl <;> rfl) (by omega)
          have F34 := FR.w F30 W31 (show (q + 4) = 71 ∨ (q + 4) = 76 by omega)
          refine to_go (pc := 81) rw_65_81 (s_inc (pc := 190) rw_65_190 (ls2 := fun v => [.ref q, .ref p, .ref 11, .int c, .int t, .int x5, .int v11, .int v, u8]) rfl rfl (fun _ => rfl) (A := x7.toInt) (B := 1) rfl rfl (by omega) (fun v35 e36 => to_go (pc := 193) rw_65_193 ?_))
          have j_37 := (QI_f (fun a i z => W_n W31 (by omega) rfl) (QI_f (tg_100 F27) g6))
          exact ih M32 x5 v11 v35 (u8) hG33 F34 (by omega) (by omega) (by omega) (by omega) (by omega) j_37 (by omega)
      · refine to_an (pc := 35) rw_65_35 rfl (s_gR (pc := 36) rw_65_36 hG (by rcases hq with rfl | rfl <;> rfl) (v := (q + 1)) (by rcases hq with rfl | rfl <;> rfl) (to_i (pc := 39) rw_65_39 rfl (s_ialk (pc := 41) rw_65_41 hG (by rcases hq with rfl | rfl <;> rfl) (n := 40) (by rcases hq with rfl | rfl <;> rfl) (by rcases hq with rfl | rfl <;> rfl) (A := x7.toInt) rfl (by omega) (by omega) (v := v7) w_8 (to_c (pc := 42) rw_65_42 (x := (1 : Int32)) rfl rfl (b_cne (pc := 43) rw_65_43 (A := v7.toInt) (B := 1) rfl rfl (fun h40 => ?_) (fun h40 => ?_))))))
        · refine to_an (pc := 84) rw_65_84 rfl (s_gR (pc := 85) rw_65_85 hG (by rcases hq with rfl | rfl <;> rfl) (v := (q + 1)) (by rcases hq with rfl | rfl <;> rfl) (to_i (pc := 88) rw_65_88 rfl (s_ialk (pc := 90) rw_65_90 hG (by rcases hq with rfl | rfl <;> rfl) (n := 40) (by rcases hq with rfl | rfl <;> rfl) (by rcases hq with rfl | rfl <;> rfl) (A := x7.toInt) rfl (by omega) (by omega) (v := v7) w_8 (to_c (pc := 91) rw_65_91 (x := (2 : Int32)) rfl rfl (b_cne (pc := 92) rw_65_92 (A := v7.toInt) (B := 2) rfl rfl (fun h43 => ?_) (fun h43 => ?_))))))
          · refine to_i (pc := 122) rw_65_122 rfl (to_c (pc := 124) rw_65_124 (x := (1 : Int32)) rfl rfl (b_clt (pc := 125) rw_65_125 (A := x6.toInt) (B := 1) rfl rfl (fun h44 => ?_) (fun h44 => ?_)))
            · refine s_inc (pc := 190) rw_65_190 (ls2 := fun v => [.ref q, .ref p, .ref 11, .int c, .int t, .int x5, .int x6, .int v, u8]) rfl rfl (fun _ => rfl) (A := x7.toInt) (B := 1) rfl rfl (by omega) (fun v45 e46 => to_go (pc := 193) rw_65_193 ?_)
              exact ih N x5 x6 v45 (u8) hG F0 (by omega) (by omega) (by omega) (by omega) (by omega) g6 (by omega)
            · refine to_an (pc := 128) rw_65_128 rfl (s_gR (pc := 129) rw_65_129 hG (by rcases hq with rfl | rfl <;> rfl) (v := (q + 1)) (by rcases hq with rfl | rfl <;> rfl) (to_i (pc := 132) rw_65_132 rfl (s_ialk (pc := 134) rw_65_134 hG (by rcases hq with rfl | rfl <;> rfl) (n := 40) (by rcases hq with rfl | rfl <;> rfl) (by rcases hq with rfl | rfl <;> rfl) (A := x7.toInt) rfl (by omega) (by omega) (v := v7) w_8 (to_c (pc := 135) rw_65_135 (x := (3 : Int32)) rfl rfl (b_cne (pc := 136) rw_65_136 (A := v7.toInt) (B := 3) rfl rfl (fun h49 => ?_) (fun h49 => ?_))))))
              · refine to_an (pc := 159) rw_65_159 rfl (s_gR (pc := 160) rw_65_160 hG (by rcases hq with rfl | rfl <;> rfl) (v := (q + 4)) (by rcases hq with rfl | rfl <;> rfl) (to_i (pc := 163) rw_65_163 rfl (to_c (pc := 165) rw_65_165 (x := (1 : Int32)) rfl rfl (s_sub (pc := 166) rw_65_166 (A := x6.toInt) (B := 1) rfl rfl (by omega) (fun v50 e51 => s_ial (pc := 167) rw_65_167 hG (by rcases hq with rfl | rfl <;> rfl) (n := 40) (by rcases hq with rfl | rfl <;> rfl) (by rcases hq with rfl | rfl <;> rfl) (A := v50.toInt) rfl (by omega) (by omega) (lo := -2147483648) (hi := 2147483647) (by rcases hq with rfl | rfl <;> rfl) (by rcases hq with rfl | rfl <;> rfl) (fun v52 w_53 _ _ => to_an (pc := 168) rw_65_168 rfl (s_gR (pc := 169) rw_65_169 hG (by rcases hq with rfl | rfl <;> rfl) (v := (q + 4)) (by rcases hq with rfl | rfl <;> rfl) (to_i (pc := 172) rw_65_172 rfl (s_ial (pc := 174) rw_65_174 hG (by rcases hq with rfl | rfl <;> rfl) (n := 40) (by rcases hq with rfl | rfl <;> rfl) (by rcases hq with rfl | rfl <;> rfl) (A := x6.toInt) rfl (by omega) (by omega) (lo := -2147483648) (hi := 2147483647) (by rcases hq with rfl | rfl <;> rfl) (by rcases hq with rfl | rfl <;> rfl) (fun v54 w_55 _ _ => s_any (pc := 175) rw_65_175 (fun _ _ => rfl) (fun v56 => to_is (pc := 176) rw_65_176 (ls2 := [.ref q, .ref p, .ref 11, .int c, .int t, .int x5, .int x6, .int x7, .int v56]) rfl rfl ?_)))))))))))
                refine s_inc (pc := 178) rw_65_178 (ls2 := fun v => [.ref q, .ref p, .ref 11, .int c, .int t, .int x5, .int v, .int x7, .int v56]) rfl rfl (fun _ => rfl) (A := x6.toInt) (B := -1) rfl rfl (by omega) (fun v57 e58 => to_an (pc := 181) rw_65_181 rfl (s_gR (pc := 182) rw_65_182 hG (by rcases hq with rfl | rfl <;> rfl) (v := (q + 4)) (by rcases hq with rfl | rfl <;> rfl) (to_i (pc := 185) rw_65_185 rfl (to_i (pc := 187) rw_65_187 rfl (s_ias (pc := 189) rw_65_189 hG (by rcases hq with rfl | rfl <;> rfl) (n := 40) (by rcases hq with rfl | rfl <;> rfl) (A := v57.toInt) rfl (by omega) (by omega) (fun M60 W59 => ?_))))))
                have hG61 := g_wf hG W59 (by rcases hq with rfl | rfl <;> rfl) (by rcases hq with rfl | rfl <;> rfl) (by omega)
                have F62 := FR.w F0 W59 (show (q + 4) = 71 ∨ (q + 4) = 76 by omega)
                refine s_inc (pc := 190) rw_65_190 (ls2 := fun v => [.ref q, .ref p, .ref 11, .int c, .int t, .int x5, .int v57, .int v, .int v56]) rfl rfl (fun _ => rfl) (A := x7.toInt) (B := 1) rfl rfl (by omega) (fun v63 e64 => to_go (pc := 193) rw_65_193 ?_)
                have j_65 := (QI_f (fun a i z => W_n W59 (by omega) rfl) g6)
                exact ih M60 x5 v57 v63 (.int v56) hG61 F62 (by omega) (by omega) (by omega) (by omega) (by omega) j_65 (by omega)
              · refine to_an (pc := 139) rw_65_139 rfl (s_gR (pc := 140) rw_65_140 hG (by rcases hq with rfl | rfl <;> rfl) (v := (q + 4)) (by rcases hq with rfl | rfl <;> rfl) (to_i (pc := 143) rw_65_143 rfl (to_c (pc := 145) rw_65_145 (x := (1 : Int32)) rfl rfl (s_sub (pc := 146) rw_65_146 (A := x6.toInt) (B := 1) rfl rfl (by omega) (fun v66 e67 => s_ial (pc := 147) rw_65_147 hG (by rcases hq with rfl | rfl <;> rfl) (n := 40) (by rcases hq with rfl | rfl <;> rfl) (by rcases hq with rfl | rfl <;> rfl) (A := v66.toInt) rfl (by omega) (by omega) (lo := -2147483648) (hi := 2147483647) (by rcases hq with rfl | rfl <;> rfl) (by rcases hq with rfl | rfl <;> rfl) (fun v68 w_69 _ _ => to_an (pc := 148) rw_65_148 rfl (s_gR (pc := 149) rw_65_149 hG (by rcases hq with rfl | rfl <;> rfl) (v := (q + 4)) (by rcases hq with rfl | rfl <;> rfl) (to_i (pc := 152) rw_65_152 rfl (s_ial (pc := 154) rw_65_154 hG (by rcases hq with rfl | rfl <;> rfl) (n := 40) (by rcases hq with rfl | rfl <;> rfl) (by rcases hq with rfl | rfl <;> rfl) (A := x6.toInt) rfl (by omega) (by omega) (lo := -2147483648) (hi := 2147483647) (by rcases hq with rfl | rfl <;> rfl) (by rcases hq with rfl | rfl <;> rfl) (fun v70 w_71 _ _ => s_any (pc := 155) rw_65_155 (fun _ _ => rfl) (fun v72 => to_go (pc := 156) rw_65_156 ?_)))))))))))
                refine to_is (pc := 176) rw_65_176 (ls2 := [.ref q, .ref p, .ref 11, .int c, .int t, .int x5, .int x6, .int x7, .int v72]) rfl rfl (s_inc (pc := 178) rw_65_178 (ls2 := fun v => [.ref q, .ref p, .ref 11, .int c, .int t, .int x5, .int v, .int x7, .int v72]) rfl rfl (fun _ => rfl) (A := x6.toInt) (B := -1) rfl rfl (by omega) (fun v74 e75 => to_an (pc := 181) rw_65_181 rfl (s_gR (pc := 182) rw_65_182 hG (by rcases hq with rfl | rfl <;> rfl) (v := (q + 4)) (by rcases hq with rfl | rfl <;> rfl) (to_i (pc := 185) rw_65_185 rfl (to_i (pc := 187) rw_65_187 rfl (s_ias (pc := 189) rw_65_189 hG (by rcases hq with rfl | rfl <;> rfl) (n := 40) (by rcases hq with rfl | rfl <;> rfl) (A := v74.toInt) rfl (by omega) (by omega) (fun M77 W76 => ?_)))))))
                have hG78 := g_wf hG W76 (by rcases hq with rfl | rfl <;> rfl) (by rcases hq with rfl | rfl <;> rfl) (by omega)
                have F79 := FR.w F0 W76 (show (q + 4) = 71 ∨ (q + 4) = 76 by omega)
                refine s_inc (pc := 190) rw_65_190 (ls2 := fun v => [.ref q, .ref p, .ref 11, .int c, .int t, .int x5, .int v74, .int v, .int v72]) rfl rfl (fun _ => rfl) (A := x7.toInt) (B := 1) rfl rfl (by omega) (fun v80 e81 => to_go (pc := 193) rw_65_193 ?_)
                have j_82 := (QI_f (fun a i z => W_n W76 (by omega) rfl) g6)
                exact ih M77 x5 v74 v80 (.int v72) hG78 F79 (by omega) (by omega) (by omega) (by omega) (by omega) j_82 (by omega)
          · refine to_i (pc := 95) rw_65_95 rfl (b_ilt (pc := 97) rw_65_97 (A := x6.toInt) rfl (fun h83 => ?_) (fun h83 => ?_))
            · refine to_i (pc := 122) rw_65_122 rfl (to_c (pc := 124) rw_65_124 (x := (1 : Int32)) rfl rfl (b_clt_t (pc := 125) rw_65_125 (A := x6.toInt) (B := 1) rfl rfl (by omega) (s_inc (pc := 190) rw_65_190 (ls2 := fun v => [.ref q, .ref p, .ref 11, .int c, .int t, .int x5, .int x6, .int v, u8]) rfl rfl (fun _ => rfl) (A := x7.toInt) (B := 1) rfl rfl (by omega) (fun v84 e85 => to_go (pc := 193) rw_65_193 ?_))))
              exact ih N x5 x6 v84 (u8) hG F0 (by omega) (by omega) (by omega) (by omega) (by omega) g6 (by omega)
            · refine to_an (pc := 100) rw_65_100 rfl (s_gR (pc := 101) rw_65_101 hG (by rcases hq with rfl | rfl <;> rfl) (v := (q + 4)) (by rcases hq with rfl | rfl <;> rfl) (to_i (pc := 104) rw_65_104 rfl (to_i (pc := 106) rw_65_106 rfl (to_an (pc := 108) rw_65_108 rfl (s_gR (pc := 109) rw_65_109 hG (by rcases hq with rfl | rfl <;> rfl) (v := (q + 4)) (by rcases hq with rfl | rfl <;> rfl) (to_i (pc := 112) rw_65_112 rfl (s_ial (pc := 114) rw_65_114 hG (by rcases hq with rfl | rfl <;> rfl) (n := 40) (by rcases hq with rfl | rfl <;> rfl) (by rcases hq with rfl | rfl <;> rfl) (A := x6.toInt) rfl (by omega) (by omega) (lo := -2147483648) (hi := 2147483647) (by rcases hq with rfl | rfl <;> rfl) (by rcases hq with rfl | rfl <;> rfl) (fun v86 w_87 _ _ => to_c (pc := 115) rw_65_115 (x := (-1 : Int32)) rfl rfl (s_any (pc := 116) rw_65_116 (fun _ _ => rfl) (fun v88 => s_any (pc := 117) rw_65_117 (fun _ _ => rfl) (fun v89 => s_ias (pc := 118) rw_65_118 hG (by rcases hq with rfl | rfl <;> rfl) (n := 40) (by rcases hq with rfl | rfl <;> rfl) (A := x6.toInt) rfl (by omega) (by omega) (fun M92 W91 => ?_))))))))))))
              have hG93 := g_wf hG W91 (by rcases hq with rfl | rfl <;> rfl) (by rcases hq with rfl | rfl <;> rfl) (by omega)
              have F94 := FR.w F0 W91 (show (q + 4) = 71 ∨ (q + 4) = 76 by omega)
              refine to_go (pc := 119) rw_65_119 (s_inc (pc := 190) rw_65_190 (ls2 := fun v => [.ref q, .ref p, .ref 11, .int c, .int t, .int x5, .int x6, .int v, u8]) rfl rfl (fun _ => rfl) (A := x7.toInt) (B := 1) rfl rfl (by omega) (fun v95 e96 => to_go (pc := 193) rw_65_193 ?_))
              have j_97 := (QI_f (fun a i z => W_n W91 (by omega) rfl) g6)
              exact ih M92 x5 x6 v95 (u8) hG93 F94 (by omega) (by omega) (by omega) (by omega) (by omega) j_97 (by omega)
        · refine s_inc (pc := 46) rw_65_46 (ls2 := fun v => [.ref q, .ref p, .ref 11, .int c, .int t, .int x5, .int v, .int x7, u8]) rfl rfl (fun _ => rfl) (A := x6.toInt) (B := 1) rfl rfl (by omega) (fun v98 e99 => to_an (pc := 49) rw_65_49 rfl (s_gR (pc := 50) rw_65_50 hG (by rcases hq with rfl | rfl <;> rfl) (v := (q + 4)) (by rcases hq with rfl | rfl <;> rfl) (to_i (pc := 53) rw_65_53 rfl (to_i (pc := 55) rw_65_55 rfl (b_ieq (pc := 57) rw_65_57 (A := t.toInt) rfl (fun h100 => ?_) (fun h100 => ?_))))))
          · refine to_an (pc := 71) rw_65_71 rfl (to_an (pc := 72) rw_65_72 rfl (to_an (pc := 73) rw_65_73 rfl (to_in (pc := 74) rw_65_74 rfl (to_i (pc := 75) rw_65_75 rfl (s_v (pc := 77) rw_65_77 (dp0 hd (by decide)) (ls0 := [.ref q, .ref p, .ref 11, .int c, .int x7, .null, .null, .null, .null, .null]) rfl (Nat.le_of_ble_eq_true rfl) (Nat.le_of_ble_eq_true rfl) rfl (to_rc rfl rfl rfl (g_o hG (by rcases hq with rfl | rfl <;> rfl))) rfl (C_66 hX (dp1 hd (by decide)) hG hq hp (by omega) (by omega) (by omega) (q := q) (p := p) (c := c) (k := x7) (fun r101 M104 hG103 F102 => ?_)))))))
            have F105 := FR.c F0 F102 tg_153
            refine s_ias (pc := 80) rw_65_80 hG103 (by rcases hq with rfl | rfl <;> rfl) (n := 40) (by rcases hq with rfl | rfl <;> rfl) (A := v98.toInt) rfl (by omega) (by omega) (fun M107 W106 => ?_)
            have hG108 := g_wf hG103 W106 (by rcases hq with rfl | rfl <;> rfl) (by rcases hq with rfl | rfl <;> rfl) (by omega)
            have F109 := FR.w F105 W106 (show (q + 4) = 71 ∨ (q + 4) = 76 by omega)
            refine to_go (pc := 81) rw_65_81 (s_inc (pc := 190) rw_65_190 (ls2 := fun v => [.ref q, .ref p, .ref 11, .int c, .int t, .int x5, .int v98, .int v, u8]) rfl rfl (fun _ => rfl) (A := x7.toInt) (B := 1) rfl rfl (by omega) (fun v110 e111 => to_go (pc := 193) rw_65_193 ?_))
            have j_112 := (QI_f (fun a i z => W_n W106 (by omega) rfl) (QI_f (tg_100 F102) g6))
            exact ih M107 x5 v98 v110 (u8) hG108 F109 (by omega) (by omega) (by omega) (by omega) (by omega) j_112 (by omega)
          · refine to_an (pc := 60) rw_65_60 rfl (to_an (pc := 61) rw_65_61 rfl (to_in (pc := 62) rw_65_62 rfl (to_i (pc := 63) rw_65_63 rfl (s_v (pc := 65) rw_65_65 (dp0 hd (by decide)) (ls0 := [.ref q, .ref 11, .int c, .int x7, .null, .null, .null, .null]) rfl (Nat.le_of_ble_eq_true rfl) (Nat.le_of_ble_eq_true rfl) rfl (to_rc rfl rfl rfl (g_o hG (by rcases hq with rfl | rfl <;> rfl))) rfl (C_67 hX (dp1 hd (by decide)) hG hq (by omega) (by omega) (by omega) (by omega) g6 (q := q) (c := c) (k := x7) (fun r113 M116 hG115 F114 => ?_))))))
            have F117 := FR.c F0 F114 tg_153
            refine to_go (pc := 68) rw_65_68 (s_ias (pc := 80) rw_65_80 hG115 (by rcases hq with rfl | rfl <;> rfl) (n := 40) (by rcases hq with rfl | rfl <;> rfl) (A := v98.toInt) rfl (by omega) (by omega) (fun M119 W118 => ?_))
            have hG120 := g_wf hG115 W118 (by rcases hq with rfl | rfl <;> rfl) (by rcases hq with rfl | rfl <;> rfl) (by omega)
            have F121 := FR.w F117 W118 (show (q + 4) = 71 ∨ (q + 4) = 76 by omega)
            refine to_go (pc := 81) rw_65_81 (s_inc (pc := 190) rw_65_190 (ls2 := fun v => [.ref q, .ref p, .ref 11, .int c, .int t, .int x5, .int v98, .int v, u8]) rfl rfl (fun _ => rfl) (A := x7.toInt) (B := 1) rfl rfl (by omega) (fun v122 e123 => to_go (pc := 193) rw_65_193 ?_))
            have j_124 := (QI_f (fun a i z => W_n W118 (by omega) rfl) (QI_f (tg_100 F114) g6))
            exact ih M119 x5 v98 v122 (u8) hG120 F121 (by omega) (by omega) (by omega) (by omega) (by omega) j_124 (by omega)
set_option maxRecDepth 4000 in
set_option maxHeartbeats 0 in
theorem C_65 {X : mm_X} {d : Nat} {M : mm_M} {Q : Option Value → mm_M → Prop} {q : Nat} {p : Nat} {c : Int32} {t : Int32} (hX : g_X X) (hd : 4 ≤ d) (hG : g_G M) (hq : q = 67 ∨ q = 72) (hp : p = 49 ∨ p = 58) (q1 : 0 ≤ c.toInt) (q2 : c.toInt ≤ 30) (q3 : 0 ≤ t.toInt) (q4 : t.toInt ≤ 1) (q5 : QI M) (h : ∀ (r : Int32) (M1 : mm_M), g_G M1 → FR md_qa M M1 → Q (some (.int r)) M1) : mm_T X d 65 0 [.ref q, .ref p, .ref 11, .int c, .int t, .null, .null, .null, .null] [] M Q := by
  have F0 : FR md_qa M M := FR.rf
  refine to_c (pc := 0) rw_65_0 (x := (0 : Int32)) rfl rfl (to_in (pc := 1) rw_65_1 rfl (to_c (pc := 2) rw_65_2 (x := (1 : Int32)) rfl rfl (s_sub (pc := 3) rw_65_3 (A := c.toInt) (B := 1) rfl rfl (by omega) (fun v125 e126 => s_s (pc := 4) rw_65_4 (dp0 hd (by decide)) (ls0 := [.int (0 : Int32), .int v125]) rfl (Nat.le_of_ble_eq_true rfl) (Nat.le_of_ble_eq_true rfl) rfl (to_rcs rfl rfl) rfl (s_cl (pc := 0) rw_144_0 rfl (fun l127 => to_in (pc := 1) rw_144_1 rfl (to_in (pc := 2) rw_144_2 rfl (s_sub (pc := 3) rw_144_3 (A := v125.toInt) (B := 0) rfl rfl (by omega) (fun v128 e129 => to_c (pc := 4) rw_144_4 (x := (1 : Int32)) rfl rfl (s_add (pc := 5) rw_144_5 (A := v128.toInt) (B := 1) rfl rfl (by omega) (fun v130 e131 => s_anyS (pc := 6) rw_144_6 (fun _ _ => rfl) (fun l132 => ?_))))))))))))
  refine s_cl (pc := 7) rw_144_7 rfl (fun l133 => s_anyL (pc := 8) rw_144_8 (fun _ _ => rfl) (fun l134 => to_in (pc := 9) rw_144_9 rfl (s_anyS (pc := 10) rw_144_10 (fun _ _ => rfl) (fun l135 => to_rl (pc := 11) rw_144_11 (s_l2i (pc := 7) rw_65_7 (fun v136 => to_is (pc := 8) rw_65_8 (ls2 := [.ref q, .ref p, .ref 11, .int c, .int t, .int v136, .null, .null, .null]) rfl rfl (to_c (pc := 10) rw_65_10 (x := (-1 : Int32)) rfl rfl (to_is (pc := 11) rw_65_11 (ls2 := [.ref q, .ref p, .ref 11, .int c, .int t, .int v136, .int (-1 : Int32), .null, .null]) rfl rfl (to_c (pc := 13) rw_65_13 (x := (0 : Int32)) rfl rfl (to_is (pc := 14) rw_65_14 (ls2 := [.ref q, .ref p, .ref 11, .int c, .int t, .int v136, .int (-1 : Int32), .int (0 : Int32), .null]) rfl rfl ?_))))))))))
  have k_137 : (-1 : Int32).toInt = -1 := rfl
  have k_138 : (0 : Int32).toInt = 0 := rfl
  exact (T_65_0 (q := q) (p := p) (c := c) (t := t) hX hd hq hp q1 q2 q3 q4 q5 h ((40 - (0 : Int32).toInt).toNat + 1)) M v136 (-1 : Int32) (0 : Int32) (.null) hG F0 (by omega) (by omega) (by omega) (by omega) (by omega) q5 (by omega)
set_option maxRecDepth 4000 in
set_option maxHeartbeats 0 in
theorem T_69_0 {X : mm_X} {d : Nat} {M : mm_M} {Q : Option Value → mm_M → Prop} {k : Int32} {p : Nat} {f : Int32} (hX : g_X X) (hd : 1 ≤ d) (hp : p = 49 ∨ p = 58) (q1 : 0 ≤ k.toInt) (q2 : k.toInt ≤ 5) (q3 : 0 ≤ f.toInt) (q4 : f.toInt ≤ 7) (q5 : PI M) (h : ∀ (M1 : mm_M), g_G M1 → FR md_s M M1 → Q (none) M1) : ∀ nn9 : Nat, (∀ (N : mm_M) (x6 : Int32) (u7 : Value), g_G N → FR md_s M N → (0 ≤ x6.toInt) → (x6.toInt ≤ 30) → 30 - x6.toInt < (nn9 : Int) → mm_T X d 69 28 [.ref 42, .ref 17, .int k, .ref p, .ref 11, .int f, .int x6, u7] [] N Q) := by
  intro nn9
  induction nn9 with
  | zero =>
    intro N x6 u7 hG F0 g1 g2 hm
    exfalso; omega
  | succ nn9 ih =>
    intro N x6 u7 hG F0 g1 g2 hm
    refine to_i (pc := 28) rw_69_28 rfl (to_an (pc := 30) rw_69_30 rfl ?_)
    have b_1 := g_b hG (a := 42) (i := 0) (lo := 0) (hi := 30) rfl rfl
    refine tt_gI (pc := 31) rw_69_31 (g_o hG rfl) (v := (N.2.1 42 0)) rfl (b_cge (pc := 34) rw_69_34 (A := x6.toInt) (B := (N.2.1 42 0).toInt) rfl rfl (fun h2 => ?_) (fun h2 => ?_))
    · refine to_rv (pc := 102) rw_69_102 ?_
      exact h N hG F0 
    · refine to_an (pc := 37) rw_69_37 rfl (s_gR (pc := 38) rw_69_38 hG rfl (v := 18) rfl (to_in (pc := 41) rw_69_41 rfl (s_aal (pc := 42) rw_69_42 hG (A := k.toInt) rfl (by omega) (by omega) (fun r3 hr3 => to_i (pc := 43) rw_69_43 rfl (s_ial (pc := 45) rw_69_45 hG (by rcases rr_6 hr3 with z | z | z | z | z | z <;> rw [z] <;> rfl) (n := 30) (by rcases rr_6 hr3 with z | z | z | z | z | z <;> rw [z] <;> rfl) (by rcases rr_6 hr3 with z | z | z | z | z | z <;> rw [z] <;> rfl) (A := x6.toInt) rfl (by omega) (by omega) (lo := 0) (hi := 29) (by rcases rr_6 hr3 with z | z | z | z | z | z <;> rw [z] <;> rfl) (by rcases rr_6 hr3 with z | z | z | z | z | z <;> rw [z] <;> rfl) (fun v4 w_5 _ _ => to_is (pc := 46) rw_69_46 (ls2 := [.ref 42, .ref 17, .int k, .ref p, .ref 11, .int f, .int x6, .int v4]) rfl rfl (to_an (pc := 48) rw_69_48 rfl (s_gR (pc := 49) rw_69_49 hG rfl (v := 43) rfl (to_i (pc := 52) rw_69_52 rfl (to_a (pc := 54) rw_69_54 rfl (to_i (pc := 56) rw_69_56 rfl ?_)))))))))))
      refine to_i (pc := 58) rw_69_58 rfl (s_v (pc := 60) rw_69_60 (dp0 hd (by decide)) (ls0 := [.ref 11, .int v4, .int f]) rfl (Nat.le_of_ble_eq_true rfl) (Nat.le_of_ble_eq_true rfl) rfl (to_rc rfl rfl rfl (g_o hG rfl)) rfl (to_an (pc := 0) rw_12_0 rfl (s_gR (pc := 1) rw_12_1 hG rfl (v := 14) rfl (to_in (pc := 4) rw_12_4 rfl (to_c (pc := 5) rw_12_5 (x := (8 : Int32)) rfl rfl (s_mul (pc := 7) rw_12_7 (A := v4.toInt) (B := 8) rfl rfl (by omega) (fun v6 e7 => to_in (pc := 8) rw_12_8 rfl (s_add (pc := 9) rw_12_9 (A := v6.toInt) (B := f.toInt) rfl rfl (by omega) (fun v8 e9 => s_ial (pc := 10) rw_12_10 hG rfl (n := 240) rfl rfl (A := v8.toInt) rfl (by omega) (by omega) (lo := -2147483648) (hi := 2147483647) rfl rfl (fun v10 w_11 _ _ => to_r0 (pc := 11) rw_12_11 (s_ias (pc := 63) rw_69_63 hG rfl (n := 30) rfl (A := x6.toInt) rfl (by omega) (by omega) (fun M13 W12 => ?_))))))))))))
      have hG14 := g_wf hG W12 rfl rfl (by decide)
      have F15 := FR.w F0 W12 (show 42 ≤ 43 ∧ 43 ≤ 48 by decide)
      refine to_an (pc := 64) rw_69_64 rfl (s_gR (pc := 65) rw_69_65 hG14 rfl (v := 44) rfl (to_i (pc := 68) rw_69_68 rfl (to_an (pc := 70) rw_69_70 rfl (s_gR (pc := 71) rw_69_71 hG14 rfl (v := 27) rfl (to_i (pc := 74) rw_69_74 rfl (s_lal (pc := 76) rw_69_76 hG14 rfl (n := 30) rfl (A := v4.toInt) rfl (by omega) (by omega) (fun l16 => to_an (pc := 77) rw_69_77 rfl (s_gR (pc := 78) rw_69_78 hG14 (by rcases hp with rfl | rfl <;> rfl) (v := (p + 3)) (by rcases hp with rfl | rfl <;> rfl) (to_i (pc := 81) rw_69_81 rfl (s_ial (pc := 83) rw_69_83 hG14 (by rcases hp with rfl | rfl <;> rfl) (n := 8) (by rcases hp with rfl | rfl <;> rfl) (by rcases hp with rfl | rfl <;> rfl) (A := f.toInt) rfl (by omega) (by omega) (lo := 0) (hi := 59) (by rcases hp with rfl | rfl <;> rfl) (by rcases hp with rfl | rfl <;> rfl) (fun v17 w_18 _ _ => s_anyS (pc := 84) rw_69_84 (fun _ _ => rfl) (fun l19 => ?_))))))))))))
      refine s_l2i (pc := 85) rw_69_85 (fun v20 => to_c (pc := 86) rw_69_86 (x := (1 : Int32)) rfl rfl (to_an (pc := 87) rw_69_87 rfl ?_))
      have c_21 : M13.2.1 42 1 = (N.2.1 42 1) := (W_n W12 (fun z => absurd z.1 (by decide)) rfl)
      have b_22 := g_b hG (a := 42) (i := 1) (lo := 0) (hi := 6) rfl rfl
      refine tt_gI (pc := 88) rw_69_88 (g_o hG14 rfl) (v := (N.2.1 42 1)) c_21 (s_shl1 (pc := 91) rw_69_91 (B := (N.2.1 42 1).toInt) rfl (by omega) (fun v23 _ _ => to_c (pc := 92) rw_69_92 (x := (1 : Int32)) rfl rfl (s_sub (pc := 93) rw_69_93 (A := v23.toInt) (B := 1) rfl rfl (by omega) (fun v24 e25 => s_and (pc := 94) rw_69_94 (B := v24.toInt) rfl (by omega) (fun v26 e27 _ _ => s_ias (pc := 95) rw_69_95 hG14 rfl (n := 30) rfl (A := x6.toInt) rfl (by omega) (by omega) (fun M29 W28 => ?_))))))
      have hG30 := g_w hG14 W28 (A := v26.toInt) rfl (lo := 0) (hi := 63) rfl rfl (by omega) (by decide)
      have F31 := FR.w F15 W28 (show 42 ≤ 44 ∧ 44 ≤ 48 by decide)
      refine s_inc (pc := 96) rw_69_96 (ls2 := fun v => [.ref 42, .ref 17, .int k, .ref p, .ref 11, .int f, .int v, .int v4]) rfl rfl (fun _ => rfl) (A := x6.toInt) (B := 1) rfl rfl (by omega) (fun v32 e33 => to_go (pc := 99) rw_69_99 ?_)
      exact ih M29 v32 (.int v4) hG30 F31 (by omega) (by omega) (by omega)
set_option maxRecDepth 4000 in
set_option maxHeartbeats 0 in
theorem C_69 {X : mm_X} {d : Nat} {M : mm_M} {Q : Option Value → mm_M → Prop} {k : Int32} {p : Nat} {f : Int32} (hX : g_X X) (hd : 1 ≤ d) (hG : g_G M) (hp : p = 49 ∨ p = 58) (q1 : 0 ≤ k.toInt) (q2 : k.toInt ≤ 5) (q3 : 0 ≤ f.toInt) (q4 : f.toInt ≤ 7) (q5 : PI M) (h : ∀ (M1 : mm_M), g_G M1 → FR md_s M M1 → Q (none) M1) : mm_T X d 69 0 [.ref 42, .ref 17, .int k, .ref p, .ref 11, .int f, .null, .null] [] M Q := by
  have F0 : FR md_s M M := FR.rf
  refine to_an (pc := 0) rw_69_0 rfl (to_an (pc := 1) rw_69_1 rfl (s_gR (pc := 2) rw_69_2 hG rfl (v := 25) rfl (to_in (pc := 5) rw_69_5 rfl (s_ial (pc := 6) rw_69_6 hG rfl (n := 6) rfl rfl (A := k.toInt) rfl (by omega) (by omega) (lo := 0) (hi := 30) rfl rfl (fun v34 w_35 _ _ => s_pI (pc := 7) rw_69_7 hG rfl (fun M37 W36 => ?_))))))
  have hG38 := g_w hG W36 (A := v34.toInt) rfl (lo := 0) (hi := 30) rfl rfl (by omega) (by decide)
  have F39 := FR.w F0 W36 (show 42 ≤ 42 ∧ 42 ≤ 48 by decide)
  refine to_an (pc := 10) rw_69_10 rfl (to_an (pc := 11) rw_69_11 rfl (to_i (pc := 12) rw_69_12 rfl (s_v (pc := 14) rw_69_14 (dp0 hd (by decide)) (ls0 := [.ref p, .int f]) rfl (Nat.le_of_ble_eq_true rfl) (Nat.le_of_ble_eq_true rfl) rfl (to_rc rfl rfl rfl (g_o hG38 (by rcases hp with rfl | rfl <;> rfl))) rfl (to_an (pc := 0) rw_47_0 rfl (s_gR (pc := 1) rw_47_1 hG38 (by rcases hp with rfl | rfl <;> rfl) (v := (p + 4)) (by rcases hp with rfl | rfl <;> rfl) (to_in (pc := 4) rw_47_4 rfl (s_ial (pc := 5) rw_47_5 hG38 (by rcases hp with rfl | rfl <;> rfl) (n := 8) (by rcases hp with rfl | rfl <;> rfl) (by rcases hp with rfl | rfl <;> rfl) (A := f.toInt) rfl (by omega) (by omega) (lo := 0) (hi := 63) (by rcases hp with rfl | rfl <;> rfl) (by rcases hp with rfl | rfl <;> rfl) (fun v40 w_41 _ _ => ?_))))))))
  have t_42 := congrArg Int32.toInt w_41
  have j_44 := (PI_f (fun a i z => W_n W36 (by /-r42,0-/ omega) rfl) q5)
  have j_43 := PI_p j_44 hp (f.toInt).toNat
  refine to_an (pc := 6) rw_47_6 rfl (s_gR (pc := 7) rw_47_7 hG38 (by rcases hp with rfl | rfl <;> rfl) (v := (p + 3)) (by rcases hp with rfl | rfl <;> rfl) (to_in (pc := 10) rw_47_10 rfl (s_ial (pc := 11) rw_47_11 hG38 (by rcases hp with rfl | rfl <;> rfl) (n := 8) (by rcases hp with rfl | rfl <;> rfl) (by rcases hp with rfl | rfl <;> rfl) (A := f.toInt) rfl (by omega) (by omega) (lo := 0) (hi := 59) (by rcases hp with rfl | rfl <;> rfl) (by rcases hp with rfl | rfl <;> rfl) (fun v45 w_46 _ _ => ?_))))
  have t_47 := congrArg Int32.toInt w_46
  refine s_sub (pc := 12) rw_47_12 (A := v40.toInt) (B := v45.toInt) rfl rfl (by omega) (fun v48 e49 => to_c (pc := 13) rw_47_13 (x := (1 : Int32)) rfl rfl (s_add (pc := 14) rw_47_14 (A := v48.toInt) (B := 1) rfl rfl (by omega) (fun v50 e51 => to_r0 (pc := 15) rw_47_15 (to_c (pc := 17) rw_69_17 (x := (6 : Int32)) rfl rfl (s_min (pc := 19) rw_69_19 rfl (A := v50.toInt) (B := 6) rfl rfl (fun v52 _ _ _ => s_pI (pc := 22) rw_69_22 hG38 rfl (fun M54 W53 => ?_)))))))
  have hG55 := g_w hG38 W53 (A := v52.toInt) rfl (lo := 0) (hi := 6) rfl rfl (by omega) (by decide)
  have F56 := FR.w F39 W53 (show 42 ≤ 42 ∧ 42 ≤ 48 by decide)
  refine to_c (pc := 25) rw_69_25 (x := (0 : Int32)) rfl rfl (to_is (pc := 26) rw_69_26 (ls2 := [.ref 42, .ref 17, .int k, .ref p, .ref 11, .int f, .int (0 : Int32), .null]) rfl rfl ?_)
  have k_57 : (0 : Int32).toInt = 0 := rfl
  exact (T_69_0 (k := k) (p := p) (f := f) hX hd hp q1 q2 q3 q4 q5 h ((30 - (0 : Int32).toInt).toNat + 1)) M54 (0 : Int32) (.null) hG55 F56 (by omega) (by omega) (by omega)
set_option maxRecDepth 4000 in
set_option maxHeartbeats 0 in
theorem T_70_0 {X : mm_X} {d : Nat} {M : mm_M} {Q : Option Value → mm_M → Prop} (hX : g_X X) (hd : 0 ≤ d) (h : ∀ (r : Int32) (M1 : mm_M), g_G M1 → FR md_s2 M M1 → Q (some (.int r)) M1) : ∀ nn9 : Nat, (∀ (N : mm_M) (x1 : Int32) (x2 : Int32) (u3 : Value), g_G N → FR md_s2 M N → (0 ≤ x2.toInt) → (x2.toInt ≤ 30) → (30 - x2.toInt) * 100 + 50 < (nn9 : Int) → mm_T X d 70 4 [.ref 42, .int x1, .int x2, u3] [] N Q) ∧ (∀ (N : mm_M) (x1 : Int32) (x2 : Int32) (x3 : Int32), g_G N → FR md_s2 M N → (0 ≤ x2.toInt) → (x2.toInt ≤ 29) → (0 ≤ x3.toInt) → (x3.toInt ≤ 30) → (x3.toInt ≤ x2.toInt) → (30 - x2.toInt) * 100 + 30 - x3.toInt < (nn9 : Int) → mm_T X d 70 21 [.ref 42, .int x1, .int x2, .int x3] [] N Q) := by
  intro nn9
  induction nn9 with
  | zero =>
    refine ⟨?_, ?_⟩
    · intro N x1 x2 u3 hG F0 g1 g2 hm
      exfalso; omega
    · intro N x1 x2 x3 hG F0 g1 g2 g3 g4 g5 hm
      exfalso; omega
  | succ nn9 ih =>
    refine ⟨?_, ?_⟩
    · intro N x1 x2 u3 hG F0 g1 g2 hm
      refine to_in (pc := 4) rw_70_4 rfl (to_an (pc := 5) rw_70_5 rfl ?_)
      have b_1 := g_b hG (a := 42) (i := 0) (lo := 0) (hi := 30) rfl rfl
      refine tt_gI (pc := 6) rw_70_6 (g_o hG rfl) (v := (N.2.1 42 0)) rfl (b_cge (pc := 9) rw_70_9 (A := x2.toInt) (B := (N.2.1 42 0).toInt) rfl rfl (fun h2 => ?_) (fun h2 => ?_))
      · refine to_an (pc := 87) rw_70_87 rfl (tt_gI (pc := 88) rw_70_88 (g_o hG rfl) (v := (N.2.1 42 0)) rfl (to_in (pc := 91) rw_70_91 rfl (s_any (pc := 92) rw_70_92 (fun _ _ => rfl) (fun v3 => to_r0 (pc := 93) rw_70_93 ?_))))
        exact h v3 N hG F0 
      · refine to_an (pc := 12) rw_70_12 rfl (s_gR (pc := 13) rw_70_13 hG rfl (v := 45) rfl (to_in (pc := 16) rw_70_16 rfl (to_c (pc := 17) rw_70_17 (x := (1 : Int32)) rfl rfl (s_ias (pc := 18) rw_70_18 hG rfl (n := 30) rfl (A := x2.toInt) rfl (by omega) (by omega) (fun M5 W4 => ?_)))))
        have hG6 := g_wf hG W4 rfl rfl (by decide)
        have F7 := FR.w F0 W4 (show 43 ≤ 45 ∧ 45 ≤ 48 by decide)
        refine to_c (pc := 19) rw_70_19 (x := (0 : Int32)) rfl rfl (to_isn (pc := 20) rw_70_20 (ls2 := [.ref 42, .int x1, .int x2, .int (0 : Int32)]) rfl rfl ?_)
        have k_8 : (0 : Int32).toInt = 0 := rfl
        exact ih.2 M5 x1 x2 (0 : Int32) hG6 F7 (by omega) (by omega) (by omega) (by omega) (by omega) (by omega)
    · intro N x1 x2 x3 hG F0 g1 g2 g3 g4 g5 hm
      refine to_in (pc := 21) rw_70_21 rfl (to_in (pc := 22) rw_70_22 rfl (b_cge (pc := 23) rw_70_23 (A := x3.toInt) (B := x2.toInt) rfl rfl (fun h9 => ?_) (fun h9 => ?_)))
      · refine to_in (pc := 70) rw_70_70 rfl (to_an (pc := 71) rw_70_71 rfl (s_gR (pc := 72) rw_70_72 hG rfl (v := 45) rfl (to_in (pc := 75) rw_70_75 rfl (s_ial (pc := 76) rw_70_76 hG rfl (n := 30) rfl rfl (A := x2.toInt) rfl (by omega) (by omega) (lo := -2147483648) (hi := 2147483647) rfl rfl (fun v10 w_11 _ _ => s_max (pc := 77) rw_70_77 rfl (A := x1.toInt) (B := v10.toInt) rfl rfl (fun v12 _ _ _ => to_isn (pc := 80) rw_70_80 (ls2 := [.ref 42, .int v12, .int x2, .int x3]) rfl rfl (s_inc (pc := 81) rw_70_81 (ls2 := fun v => [.ref 42, .int v12, .int v, .int x3]) rfl rfl (fun _ => rfl) (A := x2.toInt) (B := 1) rfl rfl (by omega) (fun v13 e14 => to_go (pc := 84) rw_70_84 ?_))))))))
        exact ih.1 N v12 v13 (.int x3) hG F0 (by omega) (by omega) (by omega)
      · refine to_an (pc := 26) rw_70_26 rfl (s_gR (pc := 27) rw_70_27 hG rfl (v := 43) rfl (to_in (pc := 30) rw_70_30 rfl (s_ial (pc := 31) rw_70_31 hG rfl (n := 30) rfl rfl (A := x3.toInt) rfl (by omega) (by omega) (lo := -2147483648) (hi := 2147483647) rfl rfl (fun v15 w_16 _ _ => to_an (pc := 32) rw_70_32 rfl (s_gR (pc := 33) rw_70_33 hG rfl (v := 43) rfl (to_in (pc := 36) rw_70_36 rfl (s_ial (pc := 37) rw_70_37 hG rfl (n := 30) rfl rfl (A := x2.toInt) rfl (by omega) (by omega) (lo := -2147483648) (hi := 2147483647) rfl rfl (fun v17 w_18 _ _ => b_cgt (pc := 38) rw_70_38 (A := v15.toInt) (B := v17.toInt) rfl rfl (fun h19 => ?_) (fun h19 => ?_)))))))))
        · refine s_inc (pc := 64) rw_70_64 (ls2 := fun v => [.ref 42, .int x1, .int x2, .int v]) rfl rfl (fun _ => rfl) (A := x3.toInt) (B := 1) rfl rfl (by omega) (fun v20 e21 => to_go (pc := 67) rw_70_67 ?_)
          exact ih.2 N x1 x2 v20 hG F0 (by omega) (by omega) (by omega) (by omega) (by omega) (by omega)
        · refine to_an (pc := 41) rw_70_41 rfl (s_gR (pc := 42) rw_70_42 hG rfl (v := 45) rfl (to_in (pc := 45) rw_70_45 rfl (to_an (pc := 46) rw_70_46 rfl (s_gR (pc := 47) rw_70_47 hG rfl (v := 45) rfl (to_in (pc := 50) rw_70_50 rfl (s_ial (pc := 51) rw_70_51 hG rfl (n := 30) rfl rfl (A := x2.toInt) rfl (by omega) (by omega) (lo := -2147483648) (hi := 2147483647) rfl rfl (fun v22 w_23 _ _ => to_an (pc := 52) rw_70_52 rfl (s_gR (pc := 53) rw_70_53 hG rfl (v := 45) rfl (to_in (pc := 56) rw_70_56 rfl (s_ial (pc := 57) rw_70_57 hG rfl (n := 30) rfl rfl (A := x3.toInt) rfl (by omega) (by omega) (lo := -2147483648) (hi := 2147483647) rfl rfl (fun v24 w_25 _ _ => to_c (pc := 58) rw_70_58 (x := (1 : Int32)) rfl rfl ?_)))))))))))
          refine s_any (pc := 59) rw_70_59 (fun _ _ => rfl) (fun v26 => s_max (pc := 60) rw_70_60 rfl (A := v22.toInt) (B := v26.toInt) rfl rfl (fun v27 _ _ _ => s_ias (pc := 63) rw_70_63 hG rfl (n := 30) rfl (A := x2.toInt) rfl (by omega) (by omega) (fun M29 W28 => ?_)))
          have hG30 := g_wf hG W28 rfl rfl (by decide)
          have F31 := FR.w F0 W28 (show 43 ≤ 45 ∧ 45 ≤ 48 by decide)
          refine s_inc (pc := 64) rw_70_64 (ls2 := fun v => [.ref 42, .int x1, .int x2, .int v]) rfl rfl (fun _ => rfl) (A := x3.toInt) (B := 1) rfl rfl (by omega) (fun v32 e33 => to_go (pc := 67) rw_70_67 ?_)
          exact ih.2 M29 x1 x2 v32 hG30 F31 (by omega) (by omega) (by omega) (by omega) (by omega) (by omega)
set_option maxRecDepth 4000 in
set_option maxHeartbeats 0 in
theorem C_70 {X : mm_X} {d : Nat} {M : mm_M} {Q : Option Value → mm_M → Prop} (hX : g_X X) (hd : 0 ≤ d) (hG : g_G M) (h : ∀ (r : Int32) (M1 : mm_M), g_G M1 → FR md_s2 M M1 → Q (some (.int r)) M1) : mm_T X d 70 0 [.ref 42, .null, .null, .null] [] M Q := by
  have F0 : FR md_s2 M M := FR.rf
  refine to_c (pc := 0) rw_70_0 (x := (0 : Int32)) rfl rfl (to_isn (pc := 1) rw_70_1 (ls2 := [.ref 42, .int (0 : Int32), .null, .null]) rfl rfl (to_c (pc := 2) rw_70_2 (x := (0 : Int32)) rfl rfl (to_isn (pc := 3) rw_70_3 (ls2 := [.ref 42, .int (0 : Int32), .int (0 : Int32), .null]) rfl rfl ?_)))
  have k_34 : (0 : Int32).toInt = 0 := rfl
  exact (T_70_0 hX hd  h (((30 - (0 : Int32).toInt) * 100 + 50).toNat + 1)).1 M (0 : Int32) (0 : Int32) (.null) hG F0 (by omega) (by omega) (by omega)
set_option maxRecDepth 4000 in
set_option maxHeartbeats 0 in
theorem T_73_0 {X : mm_X} {d : Nat} {M : mm_M} {Q : Option Value → mm_M → Prop} {l : Int32} {y : Int32} (hX : g_X X) (hd : 0 ≤ d) (q1 : 0 ≤ l.toInt) (q2 : l.toInt ≤ 63) (h : ∀ (r : Int32) (M1 : mm_M), g_G M1 → FR md_s2 M M1 → (0 ≤ r.toInt) → (r.toInt ≤ 1) → Q (some (.int r)) M1) : ∀ nn9 : Nat, (∀ (N : mm_M) (x3 : Int32) (u4 : Value), g_G N → FR md_s2 M N → (0 ≤ x3.toInt) → (x3.toInt ≤ 30) → 30 - x3.toInt < (nn9 : Int) → mm_T X d 73 48 [.ref 42, .int l, .int y, .int x3, u4] [] N Q) := by
  intro nn9
  induction nn9 with
  | zero =>
    intro N x3 u4 hG F0 g1 g2 hm
    exfalso; omega
  | succ nn9 ih =>
    intro N x3 u4 hG F0 g1 g2 hm
    refine to_in (pc := 48) rw_73_48 rfl (to_an (pc := 49) rw_73_49 rfl ?_)
    have b_1 := g_b hG (a := 42) (i := 0) (lo := 0) (hi := 30) rfl rfl
    refine tt_gI (pc := 50) rw_73_50 (g_o hG rfl) (v := (N.2.1 42 0)) rfl (b_cge (pc := 53) rw_73_53 (A := x3.toInt) (B := (N.2.1 42 0).toInt) rfl rfl (fun h2 => ?_) (fun h2 => ?_))
    · refine to_c (pc := 153) rw_73_153 (x := (1 : Int32)) rfl rfl (s_r1 (pc := 154) rw_73_154 (A := 1) rfl (by decide) ?_)
      have k_3 : (1 : Int32).toInt = 1 := rfl
      exact h (1 : Int32) N hG F0 (by decide) (by decide)
    · refine to_an (pc := 56) rw_73_56 rfl (s_gR (pc := 57) rw_73_57 hG rfl (v := 44) rfl (to_in (pc := 60) rw_73_60 rfl (s_ial (pc := 61) rw_73_61 hG rfl (n := 30) rfl rfl (A := x3.toInt) rfl (by omega) (by omega) (lo := 0) (hi := 63) rfl rfl (fun v4 w_5 _ _ => to_in (pc := 62) rw_73_62 rfl (s_and (pc := 63) rw_73_63 (B := l.toInt) rfl (by omega) (fun v6 e7 _ _ => to_is (pc := 64) rw_73_64 (ls2 := [.ref 42, .int l, .int y, .int x3, .int v6]) rfl rfl (to_an (pc := 66) rw_73_66 rfl (s_gR (pc := 67) rw_73_67 hG rfl (v := 44) rfl (to_in (pc := 70) rw_73_70 rfl (s_ialk (pc := 71) rw_73_71 hG rfl (n := 30) rfl rfl (A := x3.toInt) rfl (by omega) (by omega) (v := v4) w_5 (to_in (pc := 72) rw_73_72 rfl ?_)))))))))))
      refine s_shr (pc := 73) rw_73_73 (A := v4.toInt) rfl (by omega) (fun v10 _ _ => to_c (pc := 74) rw_73_74 (x := (1 : Int32)) rfl rfl (s_and (pc := 75) rw_73_75 (B := 1) rfl (by omega) (fun v11 e12 _ _ => b_ieq (pc := 76) rw_73_76 (A := v11.toInt) rfl (fun h13 => ?_) (fun h13 => ?_))))
      · refine to_an (pc := 105) rw_73_105 rfl (s_gR (pc := 106) rw_73_106 hG rfl (v := 47) rfl (to_i (pc := 109) rw_73_109 rfl (to_an (pc := 111) rw_73_111 rfl (s_gR (pc := 112) rw_73_112 hG rfl (v := 47) rfl (to_i (pc := 115) rw_73_115 rfl (s_ial (pc := 117) rw_73_117 hG rfl (n := 64) rfl rfl (A := v6.toInt) rfl (by omega) (by omega) (lo := -2147483648) (hi := 2147483647) rfl rfl (fun v14 w_15 _ _ => to_an (pc := 118) rw_73_118 rfl (s_gR (pc := 119) rw_73_119 hG rfl (v := 43) rfl (to_in (pc := 122) rw_73_122 rfl (s_ial (pc := 123) rw_73_123 hG rfl (n := 30) rfl rfl (A := x3.toInt) rfl (by omega) (by omega) (lo := -2147483648) (hi := 2147483647) rfl rfl (fun v16 w_17 _ _ => s_max (pc := 124) rw_73_124 rfl (A := v14.toInt) (B := v16.toInt) rfl rfl (fun v18 _ _ _ => ?_))))))))))))
        refine s_ias (pc := 127) rw_73_127 hG rfl (n := 64) rfl (A := v6.toInt) rfl (by omega) (by omega) (fun M20 W19 => ?_)
        have hG21 := g_wf hG W19 rfl rfl (by decide)
        have F22 := FR.w F0 W19 (show 43 ≤ 47 ∧ 47 ≤ 48 by decide)
        refine to_an (pc := 128) rw_73_128 rfl (s_gR (pc := 129) rw_73_129 hG21 rfl (v := 47) rfl (to_i (pc := 132) rw_73_132 rfl (s_ialk (pc := 134) rw_73_134 hG21 rfl (n := 64) rfl rfl (A := v6.toInt) rfl (by omega) (by omega) (v := v18) (W_e W19) (to_an (pc := 135) rw_73_135 rfl (s_gR (pc := 136) rw_73_136 hG21 rfl (v := 48) rfl (to_i (pc := 139) rw_73_139 rfl (s_ial (pc := 141) rw_73_141 hG21 rfl (n := 64) rfl rfl (A := v6.toInt) rfl (by omega) (by omega) (lo := -2147483648) (hi := 2147483647) rfl rfl (fun v25 w_26 _ _ => b_cle (pc := 142) rw_73_142 (A := v18.toInt) (B := v25.toInt) rfl rfl (fun h27 => ?_) (fun h27 => ?_)))))))))
        · refine s_inc (pc := 147) rw_73_147 (ls2 := fun v => [.ref 42, .int l, .int y, .int v, .int v6]) rfl rfl (fun _ => rfl) (A := x3.toInt) (B := 1) rfl rfl (by omega) (fun v28 e29 => to_go (pc := 150) rw_73_150 ?_)
          exact ih M20 v28 (.int v6) hG21 F22 (by omega) (by omega) (by omega)
        · refine to_c (pc := 145) rw_73_145 (x := (0 : Int32)) rfl rfl (s_r1 (pc := 146) rw_73_146 (A := 0) rfl (by decide) ?_)
          have k_30 : (0 : Int32).toInt = 0 := rfl
          exact h (0 : Int32) M20 hG21 F22 (by decide) (by decide)
      · refine to_an (pc := 79) rw_73_79 rfl (s_gR (pc := 80) rw_73_80 hG rfl (v := 48) rfl (to_i (pc := 83) rw_73_83 rfl (to_an (pc := 85) rw_73_85 rfl (s_gR (pc := 86) rw_73_86 hG rfl (v := 48) rfl (to_i (pc := 89) rw_73_89 rfl (s_ial (pc := 91) rw_73_91 hG rfl (n := 64) rfl rfl (A := v6.toInt) rfl (by omega) (by omega) (lo := -2147483648) (hi := 2147483647) rfl rfl (fun v31 w_32 _ _ => to_an (pc := 92) rw_73_92 rfl (s_gR (pc := 93) rw_73_93 hG rfl (v := 43) rfl (to_in (pc := 96) rw_73_96 rfl (s_ial (pc := 97) rw_73_97 hG rfl (n := 30) rfl rfl (A := x3.toInt) rfl (by omega) (by omega) (lo := -2147483648) (hi := 2147483647) rfl rfl (fun v33 w_34 _ _ => s_min (pc := 98) rw_73_98 rfl (A := v31.toInt) (B := v33.toInt) rfl rfl (fun v35 _ _ _ => ?_))))))))))))
        refine s_ias (pc := 101) rw_73_101 hG rfl (n := 64) rfl (A := v6.toInt) rfl (by omega) (by omega) (fun M37 W36 => ?_)
        have hG38 := g_wf hG W36 rfl rfl (by decide)
        have F39 := FR.w F0 W36 (show 43 ≤ 48 ∧ 48 ≤ 48 by decide)
        refine to_go (pc := 102) rw_73_102 (to_an (pc := 128) rw_73_128 rfl (s_gR (pc := 129) rw_73_129 hG38 rfl (v := 47) rfl (to_i (pc := 132) rw_73_132 rfl (s_ial (pc := 134) rw_73_134 hG38 rfl (n := 64) rfl rfl (A := v6.toInt) rfl (by omega) (by omega) (lo := -2147483648) (hi := 2147483647) rfl rfl (fun v40 w_41 _ _ => to_an (pc := 135) rw_73_135 rfl (s_gR (pc := 136) rw_73_136 hG38 rfl (v := 48) rfl (to_i (pc := 139) rw_73_139 rfl (s_ialk (pc := 141) rw_73_141 hG38 rfl (n := 64) rfl rfl (A := v6.toInt) rfl (by omega) (by omega) (v := v35) (W_e W36) (b_cle (pc := 142) rw_73_142 (A := v40.toInt) (B := v35.toInt) rfl rfl (fun h44 => ?_) (fun h44 => ?_))))))))))
        · refine s_inc (pc := 147) rw_73_147 (ls2 := fun v => [.ref 42, .int l, .int y, .int v, .int v6]) rfl rfl (fun _ => rfl) (A := x3.toInt) (B := 1) rfl rfl (by omega) (fun v45 e46 => to_go (pc := 150) rw_73_150 ?_)
          exact ih M37 v45 (.int v6) hG38 F39 (by omega) (by omega) (by omega)
        · refine to_c (pc := 145) rw_73_145 (x := (0 : Int32)) rfl rfl (s_r1 (pc := 146) rw_73_146 (A := 0) rfl (by decide) ?_)
          have k_47 : (0 : Int32).toInt = 0 := rfl
          exact h (0 : Int32) M37 hG38 F39 (by decide) (by decide)
set_option maxRecDepth 4000 in
set_option maxHeartbeats 0 in
theorem T_73_1 {X : mm_X} {d : Nat} {M : mm_M} {Q : Option Value → mm_M → Prop} {l : Int32} {y : Int32} (hX : g_X X) (hd : 0 ≤ d) (q1 : 0 ≤ l.toInt) (q2 : l.toInt ≤ 63) (h : ∀ (r : Int32) (M1 : mm_M), g_G M1 → FR md_s2 M M1 → (0 ≤ r.toInt) → (r.toInt ≤ 1) → Q (some (.int r)) M1) : ∀ nn9 : Nat, (∀ (N : mm_M) (x3 : Int32) (u4 : Value), g_G N → FR md_s2 M N → (0 ≤ x3.toInt) → (x3.toInt ≤ 30) → 30 - x3.toInt < (nn9 : Int) → mm_T X d 73 2 [.ref 42, .int l, .int y, .int x3, u4] [] N Q) := by
  intro nn9
  induction nn9 with
  | zero =>
    intro N x3 u4 hG F0 g1 g2 hm
    exfalso; omega
  | succ nn9 ih =>
    intro N x3 u4 hG F0 g1 g2 hm
    refine to_in (pc := 2) rw_73_2 rfl (to_an (pc := 3) rw_73_3 rfl ?_)
    have b_48 := g_b hG (a := 42) (i := 0) (lo := 0) (hi := 30) rfl rfl
    refine tt_gI (pc := 4) rw_73_4 (g_o hG rfl) (v := (N.2.1 42 0)) rfl (b_cge (pc := 7) rw_73_7 (A := x3.toInt) (B := (N.2.1 42 0).toInt) rfl rfl (fun h49 => ?_) (fun h49 => ?_))
    · refine to_c (pc := 46) rw_73_46 (x := (0 : Int32)) rfl rfl (to_isn (pc := 47) rw_73_47 (ls2 := [.ref 42, .int l, .int y, .int (0 : Int32), u4]) rfl rfl ?_)
      have k_50 : (0 : Int32).toInt = 0 := rfl
      exact (T_73_0 (l := l) (y := y) hX hd q1 q2 h ((30 - (0 : Int32).toInt).toNat + 1)) N (0 : Int32) (u4) hG F0 (by omega) (by omega) (by omega)
    · refine to_an (pc := 10) rw_73_10 rfl (s_gR (pc := 11) rw_73_11 hG rfl (v := 47) rfl (to_an (pc := 14) rw_73_14 rfl (s_gR (pc := 15) rw_73_15 hG rfl (v := 44) rfl (to_in (pc := 18) rw_73_18 rfl (s_ial (pc := 19) rw_73_19 hG rfl (n := 30) rfl rfl (A := x3.toInt) rfl (by omega) (by omega) (lo := 0) (hi := 63) rfl rfl (fun v51 w_52 _ _ => to_in (pc := 20) rw_73_20 rfl (s_and (pc := 21) rw_73_21 (B := l.toInt) rfl (by omega) (fun v53 e54 _ _ => to_c (pc := 22) rw_73_22 (x := (-2 : Int32)) rfl rfl (s_ias (pc := 24) rw_73_24 hG rfl (n := 64) rfl (A := v53.toInt) rfl (by omega) (by omega) (fun M56 W55 => ?_))))))))))
      have hG57 := g_wf hG W55 rfl rfl (by decide)
      have F58 := FR.w F0 W55 (show 43 ≤ 47 ∧ 47 ≤ 48 by decide)
      refine to_an (pc := 25) rw_73_25 rfl (s_gR (pc := 26) rw_73_26 hG57 rfl (v := 48) rfl (to_an (pc := 29) rw_73_29 rfl (s_gR (pc := 30) rw_73_30 hG57 rfl (v := 44) rfl (to_in (pc := 33) rw_73_33 rfl (s_ialk (pc := 34) rw_73_34 hG57 rfl (n := 30) rfl rfl (A := x3.toInt) rfl (by omega) (by omega) (v := v51) (W_n W55 (by omega) w_52) (to_in (pc := 35) rw_73_35 rfl (to_2 (pc := 36) rw_73_36 (v := v53) (congrArg some e54) (to_c (pc := 37) rw_73_37 (x := (100 : Int32)) rfl rfl (s_ias (pc := 39) rw_73_39 hG57 rfl (n := 64) rfl (A := v53.toInt) rfl (by omega) (by omega) (fun M64 W63 => ?_))))))))))
      have hG65 := g_wf hG57 W63 rfl rfl (by decide)
      have F66 := FR.w F58 W63 (show 43 ≤ 48 ∧ 48 ≤ 48 by decide)
      refine s_inc (pc := 40) rw_73_40 (ls2 := fun v => [.ref 42, .int l, .int y, .int v, u4]) rfl rfl (fun _ => rfl) (A := x3.toInt) (B := 1) rfl rfl (by omega) (fun v67 e68 => to_go (pc := 43) rw_73_43 ?_)
      exact ih M64 v67 (u4) hG65 F66 (by omega) (by omega) (by omega)
set_option maxRecDepth 4000 in
set_option maxHeartbeats 0 in
theorem C_73 {X : mm_X} {d : Nat} {M : mm_M} {Q : Option Value → mm_M → Prop} {l : Int32} {y : Int32} (hX : g_X X) (hd : 0 ≤ d) (hG : g_G M) (q1 : 0 ≤ l.toInt) (q2 : l.toInt ≤ 63) (h : ∀ (r : Int32) (M1 : mm_M), g_G M1 → FR md_s2 M M1 → (0 ≤ r.toInt) → (r.toInt ≤ 1) → Q (some (.int r)) M1) : mm_T X d 73 0 [.ref 42, .int l, .int y, .null, .null] [] M Q := by
  have F0 : FR md_s2 M M := FR.rf
  refine to_c (pc := 0) rw_73_0 (x := (0 : Int32)) rfl rfl (to_isn (pc := 1) rw_73_1 (ls2 := [.ref 42, .int l, .int y, .int (0 : Int32), .null]) rfl rfl ?_)
  have k_69 : (0 : Int32).toInt = 0 := rfl
  exact (T_73_1 (l := l) (y := y) hX hd q1 q2 h ((30 - (0 : Int32).toInt).toNat + 1)) M (0 : Int32) (.null) hG F0 (by omega) (by omega) (by omega)
set_option maxRecDepth 4000 in
set_option maxHeartbeats 0 in
theorem T_74_0 {X : mm_X} {d : Nat} {M : mm_M} {Q : Option Value → mm_M → Prop} {s : Int32} (hX : g_X X) (hd : 0 ≤ d) (q1 : 0 ≤ s.toInt) (q2 : s.toInt ≤ 63) (h : ∀ (r : Int32) (M1 : mm_M), g_G M1 → FR md_s2 M M1 → (0 ≤ r.toInt) → (r.toInt ≤ 1) → Q (some (.int r)) M1) : ∀ nn9 : Nat, (∀ (N : mm_M) (x2 : Int32), g_G N → FR md_s2 M N → (0 ≤ x2.toInt) → (x2.toInt ≤ 30) → 30 - x2.toInt < (nn9 : Int) → mm_T X d 74 33 [.ref 42, .int s, .int x2] [] N Q) := by
  intro nn9
  induction nn9 with
  | zero =>
    intro N x2 hG F0 g1 g2 hm
    exfalso; omega
  | succ nn9 ih =>
    intro N x2 hG F0 g1 g2 hm
    refine to_in (pc := 33) rw_74_33 rfl (to_an (pc := 34) rw_74_34 rfl ?_)
    have b_1 := g_b hG (a := 42) (i := 0) (lo := 0) (hi := 30) rfl rfl
    refine tt_gI (pc := 35) rw_74_35 (g_o hG rfl) (v := (N.2.1 42 0)) rfl (b_cge (pc := 38) rw_74_38 (A := x2.toInt) (B := (N.2.1 42 0).toInt) rfl rfl (fun h2 => ?_) (fun h2 => ?_))
    · refine to_c (pc := 90) rw_74_90 (x := (1 : Int32)) rfl rfl (s_r1 (pc := 91) rw_74_91 (A := 1) rfl (by decide) ?_)
      have k_3 : (1 : Int32).toInt = 1 := rfl
      exact h (1 : Int32) N hG F0 (by decide) (by decide)
    · refine to_an (pc := 41) rw_74_41 rfl (s_gR (pc := 42) rw_74_42 hG rfl (v := 43) rfl (to_in (pc := 45) rw_74_45 rfl (s_ial (pc := 46) rw_74_46 hG rfl (n := 30) rfl rfl (A := x2.toInt) rfl (by omega) (by omega) (lo := -2147483648) (hi := 2147483647) rfl rfl (fun v4 w_5 _ _ => to_an (pc := 47) rw_74_47 rfl (s_gR (pc := 48) rw_74_48 hG rfl (v := 47) rfl (to_an (pc := 51) rw_74_51 rfl (s_gR (pc := 52) rw_74_52 hG rfl (v := 44) rfl (to_in (pc := 55) rw_74_55 rfl (s_ial (pc := 56) rw_74_56 hG rfl (n := 30) rfl rfl (A := x2.toInt) rfl (by omega) (by omega) (lo := 0) (hi := 63) rfl rfl (fun v6 w_7 _ _ => to_in (pc := 57) rw_74_57 rfl (s_and (pc := 58) rw_74_58 (B := s.toInt) rfl (by omega) (fun v8 e9 _ _ => ?_))))))))))))
      refine s_ial (pc := 59) rw_74_59 hG rfl (n := 64) rfl rfl (A := v8.toInt) rfl (by omega) (by omega) (lo := -2147483648) (hi := 2147483647) rfl rfl (fun v10 w_11 _ _ => b_cge (pc := 60) rw_74_60 (A := v4.toInt) (B := v10.toInt) rfl rfl (fun h12 => ?_) (fun h12 => ?_))
      · refine to_an (pc := 65) rw_74_65 rfl (s_gR (pc := 66) rw_74_66 hG rfl (v := 47) rfl (to_an (pc := 69) rw_74_69 rfl (s_gR (pc := 70) rw_74_70 hG rfl (v := 44) rfl (to_in (pc := 73) rw_74_73 rfl (s_ialk (pc := 74) rw_74_74 hG rfl (n := 30) rfl rfl (A := x2.toInt) rfl (by omega) (by omega) (v := v6) w_7 (to_in (pc := 75) rw_74_75 rfl (to_2 (pc := 76) rw_74_76 (v := v8) (congrArg some e9) (to_an (pc := 77) rw_74_77 rfl (s_gR (pc := 78) rw_74_78 hG rfl (v := 43) rfl (to_in (pc := 81) rw_74_81 rfl (s_ialk (pc := 82) rw_74_82 hG rfl (n := 30) rfl rfl (A := x2.toInt) rfl (by omega) (by omega) (v := v4) w_5 ?_)))))))))))
        refine s_ias (pc := 83) rw_74_83 hG rfl (n := 64) rfl (A := v8.toInt) rfl (by omega) (by omega) (fun M20 W19 => ?_)
        have hG21 := g_wf hG W19 rfl rfl (by decide)
        have F22 := FR.w F0 W19 (show 43 ≤ 47 ∧ 47 ≤ 48 by decide)
        refine s_inc (pc := 84) rw_74_84 (ls2 := fun v => [.ref 42, .int s, .int v]) rfl rfl (fun _ => rfl) (A := x2.toInt) (B := 1) rfl rfl (by omega) (fun v23 e24 => to_go (pc := 87) rw_74_87 ?_)
        exact ih M20 v23 hG21 F22 (by omega) (by omega) (by omega)
      · refine to_c (pc := 63) rw_74_63 (x := (0 : Int32)) rfl rfl (s_r1 (pc := 64) rw_74_64 (A := 0) rfl (by decide) ?_)
        have k_25 : (0 : Int32).toInt = 0 := rfl
        exact h (0 : Int32) N hG F0 (by decide) (by decide)
set_option maxRecDepth 4000 in
set_option maxHeartbeats 0 in
theorem T_74_1 {X : mm_X} {d : Nat} {M : mm_M} {Q : Option Value → mm_M → Prop} {s : Int32} (hX : g_X X) (hd : 0 ≤ d) (q1 : 0 ≤ s.toInt) (q2 : s.toInt ≤ 63) (h : ∀ (r : Int32) (M1 : mm_M), g_G M1 → FR md_s2 M M1 → (0 ≤ r.toInt) → (r.toInt ≤ 1) → Q (some (.int r)) M1) : ∀ nn9 : Nat, (∀ (N : mm_M) (x2 : Int32), g_G N → FR md_s2 M N → (0 ≤ x2.toInt) → (x2.toInt ≤ 30) → 30 - x2.toInt < (nn9 : Int) → mm_T X d 74 2 [.ref 42, .int s, .int x2] [] N Q) := by
  intro nn9
  induction nn9 with
  | zero =>
    intro N x2 hG F0 g1 g2 hm
    exfalso; omega
  | succ nn9 ih =>
    intro N x2 hG F0 g1 g2 hm
    refine to_in (pc := 2) rw_74_2 rfl (to_an (pc := 3) rw_74_3 rfl ?_)
    have b_26 := g_b hG (a := 42) (i := 0) (lo := 0) (hi := 30) rfl rfl
    refine tt_gI (pc := 4) rw_74_4 (g_o hG rfl) (v := (N.2.1 42 0)) rfl (b_cge (pc := 7) rw_74_7 (A := x2.toInt) (B := (N.2.1 42 0).toInt) rfl rfl (fun h27 => ?_) (fun h27 => ?_))
    · refine to_c (pc := 31) rw_74_31 (x := (0 : Int32)) rfl rfl (to_isn (pc := 32) rw_74_32 (ls2 := [.ref 42, .int s, .int (0 : Int32)]) rfl rfl ?_)
      have k_28 : (0 : Int32).toInt = 0 := rfl
      exact (T_74_0 (s := s) hX hd q1 q2 h ((30 - (0 : Int32).toInt).toNat + 1)) N (0 : Int32) hG F0 (by omega) (by omega) (by omega)
    · refine to_an (pc := 10) rw_74_10 rfl (s_gR (pc := 11) rw_74_11 hG rfl (v := 47) rfl (to_an (pc := 14) rw_74_14 rfl (s_gR (pc := 15) rw_74_15 hG rfl (v := 44) rfl (to_in (pc := 18) rw_74_18 rfl (s_ial (pc := 19) rw_74_19 hG rfl (n := 30) rfl rfl (A := x2.toInt) rfl (by omega) (by omega) (lo := 0) (hi := 63) rfl rfl (fun v29 w_30 _ _ => to_in (pc := 20) rw_74_20 rfl (s_and (pc := 21) rw_74_21 (B := s.toInt) rfl (by omega) (fun v31 e32 _ _ => to_c (pc := 22) rw_74_22 (x := (-2 : Int32)) rfl rfl (s_ias (pc := 24) rw_74_24 hG rfl (n := 64) rfl (A := v31.toInt) rfl (by omega) (by omega) (fun M34 W33 => ?_))))))))))
      have hG35 := g_wf hG W33 rfl rfl (by decide)
      have F36 := FR.w F0 W33 (show 43 ≤ 47 ∧ 47 ≤ 48 by decide)
      refine s_inc (pc := 25) rw_74_25 (ls2 := fun v => [.ref 42, .int s, .int v]) rfl rfl (fun _ => rfl) (A := x2.toInt) (B := 1) rfl rfl (by omega) (fun v37 e38 => to_go (pc := 28) rw_74_28 ?_)
      exact ih M34 v37 hG35 F36 (by omega) (by omega) (by omega)
set_option maxRecDepth 4000 in
set_option maxHeartbeats 0 in
theorem C_74 {X : mm_X} {d : Nat} {M : mm_M} {Q : Option Value → mm_M → Prop} {s : Int32} (hX : g_X X) (hd : 0 ≤ d) (hG : g_G M) (q1 : 0 ≤ s.toInt) (q2 : s.toInt ≤ 63) (h : ∀ (r : Int32) (M1 : mm_M), g_G M1 → FR md_s2 M M1 → (0 ≤ r.toInt) → (r.toInt ≤ 1) → Q (some (.int r)) M1) : mm_T X d 74 0 [.ref 42, .int s, .null] [] M Q := by
  have F0 : FR md_s2 M M := FR.rf
  refine to_c (pc := 0) rw_74_0 (x := (0 : Int32)) rfl rfl (to_isn (pc := 1) rw_74_1 (ls2 := [.ref 42, .int s, .int (0 : Int32)]) rfl rfl ?_)
  have k_39 : (0 : Int32).toInt = 0 := rfl
  exact (T_74_1 (s := s) hX hd q1 q2 h ((30 - (0 : Int32).toInt).toNat + 1)) M (0 : Int32) hG F0 (by omega) (by omega) (by omega)
set_option maxRecDepth 4000 in
set_option maxHeartbeats 0 in
theorem T_72_0 {X : mm_X} {d : Nat} {M : mm_M} {Q : Option Value → mm_M → Prop} {s : Int32} (hX : g_X X) (hd : 1 ≤ d) (q1 : 0 ≤ s.toInt) (q2 : s.toInt ≤ 63) (h : ∀ (r : Int32) (M1 : mm_M), g_G M1 → FR md_s2 M M1 → Q (some (.int r)) M1) : ∀ nn9 : Nat, (∀ (N : mm_M) (x2 : Int32) (x3 : Int32) (u4 : Value), g_G N → FR md_s2 M N → (0 ≤ x3.toInt) → (x3.toInt ≤ 6) → 6 - x3.toInt < (nn9 : Int) → mm_T X d 72 9 [.ref 42, .int s, .int x2, .int x3, u4] [] N Q) := by
  intro nn9
  induction nn9 with
  | zero =>
    intro N x2 x3 u4 hG F0 g1 g2 hm
    exfalso; omega
  | succ nn9 ih =>
    intro N x2 x3 u4 hG F0 g1 g2 hm
    refine to_in (pc := 9) rw_72_9 rfl (to_an (pc := 10) rw_72_10 rfl ?_)
    have b_1 := g_b hG (a := 42) (i := 1) (lo := 0) (hi := 6) rfl rfl
    refine tt_gI (pc := 11) rw_72_11 (g_o hG rfl) (v := (N.2.1 42 1)) rfl (b_cge (pc := 14) rw_72_14 (A := x3.toInt) (B := (N.2.1 42 1).toInt) rfl rfl (fun h2 => ?_) (fun h2 => ?_))
    · refine to_c (pc := 73) rw_72_73 (x := (-1 : Int32)) rfl rfl (to_r0 (pc := 74) rw_72_74 ?_)
      have k_3 : (-1 : Int32).toInt = -1 := rfl
      exact h (-1 : Int32) N hG F0 
    · refine to_in (pc := 17) rw_72_17 rfl (to_c (pc := 18) rw_72_18 (x := (1 : Int32)) rfl rfl (to_in (pc := 19) rw_72_19 rfl (s_shl1 (pc := 20) rw_72_20 (B := x3.toInt) rfl (by omega) (fun v4 _ _ => to_c (pc := 21) rw_72_21 (x := (-1 : Int32)) rfl rfl (s_any (pc := 22) rw_72_22 (fun _ _ => rfl) (fun v5 => s_and' (pc := 23) rw_72_23 (A := s.toInt) rfl (by omega) (fun v6 e7 _ _ => to_is (pc := 24) rw_72_24 (ls2 := [.ref 42, .int s, .int x2, .int x3, .int v6]) rfl rfl (to_i (pc := 26) rw_72_26 rfl (to_in (pc := 28) rw_72_28 rfl (b_ceq (pc := 29) rw_72_29 (A := v6.toInt) (B := s.toInt) rfl rfl (fun h8 => ?_) (fun h8 => ?_)))))))))))
      · refine s_inc (pc := 67) rw_72_67 (ls2 := fun v => [.ref 42, .int s, .int x2, .int v, .int v6]) rfl rfl (fun _ => rfl) (A := x3.toInt) (B := 1) rfl rfl (by omega) (fun v9 e10 => to_go (pc := 70) rw_72_70 ?_)
        exact ih N x2 v9 (.int v6) hG F0 (by omega) (by omega) (by omega)
      · refine to_an (pc := 32) rw_72_32 rfl (s_gR (pc := 33) rw_72_33 hG rfl (v := 46) rfl (to_i (pc := 36) rw_72_36 rfl (s_ial (pc := 38) rw_72_38 hG rfl (n := 64) rfl rfl (A := v6.toInt) rfl (by omega) (by omega) (lo := -2147483648) (hi := 2147483647) rfl rfl (fun v11 w_12 _ _ => to_c (pc := 39) rw_72_39 (x := (-1 : Int32)) rfl rfl (b_ceq (pc := 40) rw_72_40 (A := v11.toInt) (B := -1) rfl rfl (fun h13 => ?_) (fun h13 => ?_))))))
        · refine s_inc (pc := 67) rw_72_67 (ls2 := fun v => [.ref 42, .int s, .int x2, .int v, .int v6]) rfl rfl (fun _ => rfl) (A := x3.toInt) (B := 1) rfl rfl (by omega) (fun v14 e15 => to_go (pc := 70) rw_72_70 ?_)
          exact ih N x2 v14 (.int v6) hG F0 (by omega) (by omega) (by omega)
        · refine to_an (pc := 43) rw_72_43 rfl (to_i (pc := 44) rw_72_44 rfl (to_in (pc := 46) rw_72_46 rfl (s_v (pc := 47) rw_72_47 (dp0 hd (by decide)) (ls0 := [.ref 42, .int v6, .int x3, .null, .null]) rfl (Nat.le_of_ble_eq_true rfl) (Nat.le_of_ble_eq_true rfl) rfl (to_rc rfl rfl rfl (g_o hG rfl)) rfl (C_73 hX (dp1 hd (by decide)) hG (by omega) (by omega) (l := v6) (y := x3) (fun r16 M21 hG18 F17 p_19 p_20 => ?_)))))
          have F22 := FR.c F0 F17 tg_154
          refine b_ieq (pc := 50) rw_72_50 (A := r16.toInt) rfl (fun h23 => ?_) (fun h23 => ?_)
          · refine s_inc (pc := 67) rw_72_67 (ls2 := fun v => [.ref 42, .int s, .int x2, .int v, .int v6]) rfl rfl (fun _ => rfl) (A := x3.toInt) (B := 1) rfl rfl (by omega) (fun v24 e25 => to_go (pc := 70) rw_72_70 ?_)
            exact ih M21 x2 v24 (.int v6) hG18 F22 (by omega) (by omega) (by omega)
          · refine to_in (pc := 53) rw_72_53 rfl (to_c (pc := 54) rw_72_54 (x := (3 : Int32)) rfl rfl (to_in (pc := 55) rw_72_55 rfl (s_any (pc := 56) rw_72_56 (fun _ _ => rfl) (fun v26 => s_any (pc := 57) rw_72_57 (fun _ _ => rfl) (fun v27 => to_an (pc := 58) rw_72_58 rfl (s_gR (pc := 59) rw_72_59 hG18 rfl (v := 46) rfl (to_i (pc := 62) rw_72_62 rfl (s_ial (pc := 64) rw_72_64 hG18 rfl (n := 64) rfl rfl (A := v6.toInt) rfl (by omega) (by omega) (lo := -2147483648) (hi := 2147483647) rfl rfl (fun v28 w_29 _ _ => s_any (pc := 65) rw_72_65 (fun _ _ => rfl) (fun v30 => to_r0 (pc := 66) rw_72_66 ?_))))))))))
            exact h v30 M21 hG18 F22 
set_option maxRecDepth 4000 in
set_option maxHeartbeats 0 in
theorem C_72 {X : mm_X} {d : Nat} {M : mm_M} {Q : Option Value → mm_M → Prop} {s : Int32} (hX : g_X X) (hd : 1 ≤ d) (hG : g_G M) (q1 : 0 ≤ s.toInt) (q2 : s.toInt ≤ 63) (h : ∀ (r : Int32) (M1 : mm_M), g_G M1 → FR md_s2 M M1 → Q (some (.int r)) M1) : mm_T X d 72 0 [.ref 42, .int s, .null, .null, .null] [] M Q := by
  have F0 : FR md_s2 M M := FR.rf
  refine to_in (pc := 0) rw_72_0 rfl (s_s (pc := 1) rw_72_1 (dp0 hd (by decide)) (ls0 := [.int s]) rfl (Nat.le_of_ble_eq_true rfl) (Nat.le_of_ble_eq_true rfl) rfl (to_rcs rfl rfl) rfl (C_247 hX (dp1 hd (by decide)) hG (x := s) (fun r31 M34 hG33 F32 => ?_)))
  have F35 := FR.c F0 F32 tg_155
  refine to_c (pc := 4) rw_72_4 (x := (1 : Int32)) rfl rfl (s_any (pc := 5) rw_72_5 (fun _ _ => rfl) (fun v36 => to_isn (pc := 6) rw_72_6 (ls2 := [.ref 42, .int s, .int v36, .null, .null]) rfl rfl (to_c (pc := 7) rw_72_7 (x := (0 : Int32)) rfl rfl (to_isn (pc := 8) rw_72_8 (ls2 := [.ref 42, .int s, .int v36, .int (0 : Int32), .null]) rfl rfl ?_))))
  have k_37 : (0 : Int32).toInt = 0 := rfl
  exact (T_72_0 (s := s) hX hd q1 q2 h ((6 - (0 : Int32).toInt).toNat + 1)) M34 v36 (0 : Int32) (.null) hG33 F35 (by omega) (by omega) (by omega)
set_option maxRecDepth 4000 in
set_option maxHeartbeats 0 in
theorem T_71_0 {X : mm_X} {d : Nat} {M : mm_M} {Q : Option Value → mm_M → Prop} (hX : g_X X) (hd : 2 ≤ d) (h : ∀ (r : Int32) (M1 : mm_M), g_G M1 → FR md_s M M1 → (0 ≤ r.toInt) → (r.toInt ≤ 1) → Q (some (.int r)) M1) : ∀ nn9 : Nat, (∀ (N : mm_M) (x1 : Int32) (u2 : Value) (u3 : Value), g_G N → FR md_s M N → (0 ≤ x1.toInt) → (x1.toInt ≤ 64) → 64 - x1.toInt < (nn9 : Int) → mm_T X d 71 14 [.ref 42, .int x1, u2, u3] [] N Q) := by
  intro nn9
  induction nn9 with
  | zero =>
    intro N x1 u2 u3 hG F0 g1 g2 hm
    exfalso; omega
  | succ nn9 ih =>
    intro N x1 u2 u3 hG F0 g1 g2 hm
    refine to_in (pc := 14) rw_71_14 rfl (to_c (pc := 15) rw_71_15 (x := (1 : Int32)) rfl rfl (to_an (pc := 16) rw_71_16 rfl ?_))
    have b_1 := g_b hG (a := 42) (i := 1) (lo := 0) (hi := 6) rfl rfl
    refine tt_gI (pc := 17) rw_71_17 (g_o hG rfl) (v := (N.2.1 42 1)) rfl (s_shl1 (pc := 20) rw_71_20 (B := (N.2.1 42 1).toInt) rfl (by omega) (fun v2 _ _ => b_cge (pc := 21) rw_71_21 (A := x1.toInt) (B := v2.toInt) rfl rfl (fun h3 => ?_) (fun h3 => ?_)))
    · refine to_an (pc := 130) rw_71_130 rfl (tt_gI (pc := 131) rw_71_131 (g_o hG rfl) (v := (N.2.1 42 8)) rfl (to_c (pc := 134) rw_71_134 (x := (-1 : Int32)) rfl rfl (b_ceq (pc := 135) rw_71_135 (A := (N.2.1 42 8).toInt) (B := -1) rfl rfl (fun h4 => ?_) (fun h4 => ?_))))
      · refine to_c (pc := 142) rw_71_142 (x := (0 : Int32)) rfl rfl (s_r1 (pc := 143) rw_71_143 (A := 0) rfl (by decide) ?_)
        have k_5 : (0 : Int32).toInt = 0 := rfl
        exact h (0 : Int32) N hG F0 (by decide) (by decide)
      · refine to_c (pc := 138) rw_71_138 (x := (1 : Int32)) rfl rfl (to_go (pc := 139) rw_71_139 (s_r1 (pc := 143) rw_71_143 (A := 1) rfl (by decide) ?_))
        have k_6 : (1 : Int32).toInt = 1 := rfl
        exact h (1 : Int32) N hG F0 (by decide) (by decide)
    · refine to_in (pc := 24) rw_71_24 rfl (b_ile (pc := 25) rw_71_25 (A := x1.toInt) rfl (fun h7 => ?_) (fun h7 => ?_))
      · refine to_in (pc := 39) rw_71_39 rfl (s_s (pc := 40) rw_71_40 (dp0 hd (by decide)) (ls0 := [.int x1]) rfl (Nat.le_of_ble_eq_true rfl) (Nat.le_of_ble_eq_true rfl) rfl (to_rcs rfl rfl) rfl (C_247 hX (dp1 hd (by decide)) hG (x := x1) (fun r8 M11 hG10 F9 => ?_)))
        have F12 := FR.c F0 F9 tg_156
        refine to_isn (pc := 43) rw_71_43 (ls2 := [.ref 42, .int x1, .int r8, u3]) rfl rfl (to_an (pc := 44) rw_71_44 rfl ?_)
        have c_13 : M11.2.1 42 8 = (N.2.1 42 8) := (F_n F9 (show ¬ (42 < 0) by decide) rfl)
        refine tt_gI (pc := 45) rw_71_45 (g_o hG10 rfl) (v := (N.2.1 42 8)) c_13 (to_c (pc := 48) rw_71_48 (x := (-1 : Int32)) rfl rfl (b_ceq (pc := 49) rw_71_49 (A := (N.2.1 42 8).toInt) (B := -1) rfl rfl (fun h14 => ?_) (fun h14 => ?_)))
        · refine to_c (pc := 81) rw_71_81 (x := (1 : Int32)) rfl rfl (to_go (pc := 82) rw_71_82 (to_isn (pc := 86) rw_71_86 (ls2 := [.ref 42, .int x1, .int r8, .int (1 : Int32)]) rfl rfl (to_an (pc := 87) rw_71_87 rfl (s_gR (pc := 88) rw_71_88 hG10 rfl (v := 46) rfl (to_in (pc := 91) rw_71_91 rfl (s_ial (pc := 92) rw_71_92 hG10 rfl (n := 64) rfl rfl (A := x1.toInt) rfl (by omega) (by omega) (lo := -2147483648) (hi := 2147483647) rfl rfl (fun v15 w_16 _ _ => to_c (pc := 93) rw_71_93 (x := (-1 : Int32)) rfl rfl (b_ceq (pc := 94) rw_71_94 (A := v15.toInt) (B := -1) rfl rfl (fun h17 => ?_) (fun h17 => ?_)))))))))
          · refine s_inc (pc := 124) rw_71_124 (ls2 := fun v => [.ref 42, .int v, .int r8, .int (1 : Int32)]) rfl rfl (fun _ => rfl) (A := x1.toInt) (B := 1) rfl rfl (by omega) (fun v18 e19 => to_go (pc := 127) rw_71_127 ?_)
            exact ih M11 v18 (.int r8) (.int (1 : Int32)) hG10 F12 (by omega) (by omega) (by omega)
          · refine to_in (pc := 97) rw_71_97 rfl (b_ieq_f (pc := 98) rw_71_98 (A := 1) rfl (by decide) (to_an (pc := 101) rw_71_101 rfl (to_in (pc := 102) rw_71_102 rfl (s_v (pc := 103) rw_71_103 (dp0 hd (by decide)) (ls0 := [.ref 42, .int x1, .null]) rfl (Nat.le_of_ble_eq_true rfl) (Nat.le_of_ble_eq_true rfl) rfl (to_rc rfl rfl rfl (g_o hG10 rfl)) rfl (C_74 hX (dp1 hd (by decide)) hG10 (by omega) (by omega) (s := x1) (fun r20 M25 hG22 F21 p_23 p_24 => ?_))))))
            have F26 := FR.c F12 F21 tg_157
            refine b_ieq (pc := 106) rw_71_106 (A := r20.toInt) rfl (fun h27 => ?_) (fun h27 => ?_)
            · refine s_inc (pc := 124) rw_71_124 (ls2 := fun v => [.ref 42, .int v, .int r8, .int (1 : Int32)]) rfl rfl (fun _ => rfl) (A := x1.toInt) (B := 1) rfl rfl (by omega) (fun v28 e29 => to_go (pc := 127) rw_71_127 ?_)
              exact ih M25 v28 (.int r8) (.int (1 : Int32)) hG22 F26 (by omega) (by omega) (by omega)
            · refine to_an (pc := 109) rw_71_109 rfl (to_in (pc := 110) rw_71_110 rfl (s_pI (pc := 111) rw_71_111 hG22 rfl (fun M31 W30 => ?_)))
              have hG32 := g_wf hG22 W30 rfl rfl (by decide)
              have F33 := FR.w F26 W30 (show 42 ≤ 42 ∧ 42 ≤ 48 by decide)
              refine to_an (pc := 114) rw_71_114 rfl (to_an (pc := 115) rw_71_115 rfl (s_gR (pc := 116) rw_71_116 hG32 rfl (v := 46) rfl (to_in (pc := 119) rw_71_119 rfl (s_ial (pc := 120) rw_71_120 hG32 rfl (n := 64) rfl rfl (A := x1.toInt) rfl (by omega) (by omega) (lo := -2147483648) (hi := 2147483647) rfl rfl (fun v34 w_35 _ _ => s_pI (pc := 121) rw_71_121 hG32 rfl (fun M37 W36 => ?_))))))
              have hG38 := g_wf hG32 W36 rfl rfl (by decide)
              have F39 := FR.w F33 W36 (show 42 ≤ 42 ∧ 42 ≤ 48 by decide)
              refine s_inc (pc := 124) rw_71_124 (ls2 := fun v => [.ref 42, .int v, .int r8, .int (1 : Int32)]) rfl rfl (fun _ => rfl) (A := x1.toInt) (B := 1) rfl rfl (by omega) (fun v40 e41 => to_go (pc := 127) rw_71_127 ?_)
              exact ih M37 v40 (.int r8) (.int (1 : Int32)) hG38 F39 (by omega) (by omega) (by omega)
        · refine to_in (pc := 52) rw_71_52 rfl (to_an (pc := 53) rw_71_53 rfl (tt_gI (pc := 54) rw_71_54 (g_o hG10 rfl) (v := (N.2.1 42 8)) c_13 (b_clt (pc := 57) rw_71_57 (A := r8.toInt) (B := (N.2.1 42 8).toInt) rfl rfl (fun h42 => ?_) (fun h42 => ?_))))
          · refine to_c (pc := 81) rw_71_81 (x := (1 : Int32)) rfl rfl (to_go (pc := 82) rw_71_82 (to_isn (pc := 86) rw_71_86 (ls2 := [.ref 42, .int x1, .int r8, .int (1 : Int32)]) rfl rfl (to_an (pc := 87) rw_71_87 rfl (s_gR (pc := 88) rw_71_88 hG10 rfl (v := 46) rfl (to_in (pc := 91) rw_71_91 rfl (s_ial (pc := 92) rw_71_92 hG10 rfl (n := 64) rfl rfl (A := x1.toInt) rfl (by omega) (by omega) (lo := -2147483648) (hi := 2147483647) rfl rfl (fun v43 w_44 _ _ => to_c (pc := 93) rw_71_93 (x := (-1 : Int32)) rfl rfl (b_ceq (pc := 94) rw_71_94 (A := v43.toInt) (B := -1) rfl rfl (fun h45 => ?_) (fun h45 => ?_)))))))))
            · refine s_inc (pc := 124) rw_71_124 (ls2 := fun v => [.ref 42, .int v, .int r8, .int (1 : Int32)]) rfl rfl (fun _ => rfl) (A := x1.toInt) (B := 1) rfl rfl (by omega) (fun v46 e47 => to_go (pc := 127) rw_71_127 ?_)
              exact ih M11 v46 (.int r8) (.int (1 : Int32)) hG10 F12 (by omega) (by omega) (by omega)
            · refine to_in (pc := 97) rw_71_97 rfl (b_ieq_f (pc := 98) rw_71_98 (A := 1) rfl (by decide) (to_an (pc := 101) rw_71_101 rfl (to_in (pc := 102) rw_71_102 rfl (s_v (pc := 103) rw_71_103 (dp0 hd (by decide)) (ls0 := [.ref 42, .int x1, .null]) rfl (Nat.le_of_ble_eq_true rfl) (Nat.le_of_ble_eq_true rfl) rfl (to_rc rfl rfl rfl (g_o hG10 rfl)) rfl (C_74 hX (dp1 hd (by decide)) hG10 (by omega) (by omega) (s := x1) (fun r48 M53 hG50 F49 p_51 p_52 => ?_))))))
              have F54 := FR.c F12 F49 tg_157
              refine b_ieq (pc := 106) rw_71_106 (A := r48.toInt) rfl (fun h55 => ?_) (fun h55 => ?_)
              · refine s_inc (pc := 124) rw_71_124 (ls2 := fun v => [.ref 42, .int v, .int r8, .int (1 : Int32)]) rfl rfl (fun _ => rfl) (A := x1.toInt) (B := 1) rfl rfl (by omega) (fun v56 e57 => to_go (pc := 127) rw_71_127 ?_)
                exact ih M53 v56 (.int r8) (.int (1 : Int32)) hG50 F54 (by omega) (by omega) (by omega)
              · refine to_an (pc := 109) rw_71_109 rfl (to_in (pc := 110) rw_71_110 rfl (s_pI (pc := 111) rw_71_111 hG50 rfl (fun M59 W58 => ?_)))
                have hG60 := g_wf hG50 W58 rfl rfl (by decide)
                have F61 := FR.w F54 W58 (show 42 ≤ 42 ∧ 42 ≤ 48 by decide)
                refine to_an (pc := 114) rw_71_114 rfl (to_an (pc := 115) rw_71_115 rfl (s_gR (pc := 116) rw_71_116 hG60 rfl (v := 46) rfl (to_in (pc := 119) rw_71_119 rfl (s_ial (pc := 120) rw_71_120 hG60 rfl (n := 64) rfl rfl (A := x1.toInt) rfl (by omega) (by omega) (lo := -2147483648) (hi := 2147483647) rfl rfl (fun v62 w_63 _ _ => s_pI (pc := 121) rw_71_121 hG60 rfl (fun M65 W64 => ?_))))))
                have hG66 := g_wf hG60 W64 rfl rfl (by decide)
                have F67 := FR.w F61 W64 (show 42 ≤ 42 ∧ 42 ≤ 48 by decide)
                refine s_inc (pc := 124) rw_71_124 (ls2 := fun v => [.ref 42, .int v, .int r8, .int (1 : Int32)]) rfl rfl (fun _ => rfl) (A := x1.toInt) (B := 1) rfl rfl (by omega) (fun v68 e69 => to_go (pc := 127) rw_71_127 ?_)
                exact ih M65 v68 (.int r8) (.int (1 : Int32)) hG66 F67 (by omega) (by omega) (by omega)
          · refine to_in (pc := 60) rw_71_60 rfl (to_an (pc := 61) rw_71_61 rfl (tt_gI (pc := 62) rw_71_62 (g_o hG10 rfl) (v := (N.2.1 42 8)) c_13 (b_cne (pc := 65) rw_71_65 (A := r8.toInt) (B := (N.2.1 42 8).toInt) rfl rfl (fun h70 => ?_) (fun h70 => ?_))))
            · refine to_c (pc := 85) rw_71_85 (x := (0 : Int32)) rfl rfl (to_isn (pc := 86) rw_71_86 (ls2 := [.ref 42, .int x1, .int r8, .int (0 : Int32)]) rfl rfl (to_an (pc := 87) rw_71_87 rfl (s_gR (pc := 88) rw_71_88 hG10 rfl (v := 46) rfl (to_in (pc := 91) rw_71_91 rfl (s_ial (pc := 92) rw_71_92 hG10 rfl (n := 64) rfl rfl (A := x1.toInt) rfl (by omega) (by omega) (lo := -2147483648) (hi := 2147483647) rfl rfl (fun v71 w_72 _ _ => to_c (pc := 93) rw_71_93 (x := (-1 : Int32)) rfl rfl (b_ceq (pc := 94) rw_71_94 (A := v71.toInt) (B := -1) rfl rfl (fun h73 => ?_) (fun h73 => ?_))))))))
              · refine s_inc (pc := 124) rw_71_124 (ls2 := fun v => [.ref 42, .int v, .int r8, .int (0 : Int32)]) rfl rfl (fun _ => rfl) (A := x1.toInt) (B := 1) rfl rfl (by omega) (fun v74 e75 => to_go (pc := 127) rw_71_127 ?_)
                exact ih M11 v74 (.int r8) (.int (0 : Int32)) hG10 F12 (by omega) (by omega) (by omega)
              · refine to_in (pc := 97) rw_71_97 rfl (b_ieq_t (pc := 98) rw_71_98 (A := 0) rfl (by decide) (s_inc (pc := 124) rw_71_124 (ls2 := fun v => [.ref 42, .int v, .int r8, .int (0 : Int32)]) rfl rfl (fun _ => rfl) (A := x1.toInt) (B := 1) rfl rfl (by omega) (fun v76 e77 => to_go (pc := 127) rw_71_127 ?_)))
                exact ih M11 v76 (.int r8) (.int (0 : Int32)) hG10 F12 (by omega) (by omega) (by omega)
            · refine to_an (pc := 68) rw_71_68 rfl (s_gR (pc := 69) rw_71_69 hG10 rfl (v := 46) rfl (to_in (pc := 72) rw_71_72 rfl (s_ial (pc := 73) rw_71_73 hG10 rfl (n := 64) rfl rfl (A := x1.toInt) rfl (by omega) (by omega) (lo := -2147483648) (hi := 2147483647) rfl rfl (fun v78 w_79 _ _ => to_an (pc := 74) rw_71_74 rfl ?_))))
              have c_80 : M11.2.1 42 9 = (N.2.1 42 9) := (F_n F9 (show ¬ (42 < 0) by decide) rfl)
              refine tt_gI (pc := 75) rw_71_75 (g_o hG10 rfl) (v := (N.2.1 42 9)) c_80 (b_cge (pc := 78) rw_71_78 (A := v78.toInt) (B := (N.2.1 42 9).toInt) rfl rfl (fun h81 => ?_) (fun h81 => ?_))
              · refine to_c (pc := 85) rw_71_85 (x := (0 : Int32)) rfl rfl (to_isn (pc := 86) rw_71_86 (ls2 := [.ref 42, .int x1, .int r8, .int (0 : Int32)]) rfl rfl (to_an (pc := 87) rw_71_87 rfl (s_gR (pc := 88) rw_71_88 hG10 rfl (v := 46) rfl (to_in (pc := 91) rw_71_91 rfl (s_ialk (pc := 92) rw_71_92 hG10 rfl (n := 64) rfl rfl (A := x1.toInt) rfl (by omega) (by omega) (v := v78) w_79 (to_c (pc := 93) rw_71_93 (x := (-1 : Int32)) rfl rfl (b_ceq (pc := 94) rw_71_94 (A := v78.toInt) (B := -1) rfl rfl (fun h84 => ?_) (fun h84 => ?_))))))))
                · refine s_inc (pc := 124) rw_71_124 (ls2 := fun v => [.ref 42, .int v, .int r8, .int (0 : Int32)]) rfl rfl (fun _ => rfl) (A := x1.toInt) (B := 1) rfl rfl (by omega) (fun v85 e86 => to_go (pc := 127) rw_71_127 ?_)
                  exact ih M11 v85 (.int r8) (.int (0 : Int32)) hG10 F12 (by omega) (by omega) (by omega)
                · refine to_in (pc := 97) rw_71_97 rfl (b_ieq_t (pc := 98) rw_71_98 (A := 0) rfl (by decide) (s_inc (pc := 124) rw_71_124 (ls2 := fun v => [.ref 42, .int v, .int r8, .int (0 : Int32)]) rfl rfl (fun _ => rfl) (A := x1.toInt) (B := 1) rfl rfl (by omega) (fun v87 e88 => to_go (pc := 127) rw_71_127 ?_)))
                  exact ih M11 v87 (.int r8) (.int (0 : Int32)) hG10 F12 (by omega) (by omega) (by omega)
              · refine to_c (pc := 81) rw_71_81 (x := (1 : Int32)) rfl rfl (to_go (pc := 82) rw_71_82 (to_isn (pc := 86) rw_71_86 (ls2 := [.ref 42, .int x1, .int r8, .int (1 : Int32)]) rfl rfl (to_an (pc := 87) rw_71_87 rfl (s_gR (pc := 88) rw_71_88 hG10 rfl (v := 46) rfl (to_in (pc := 91) rw_71_91 rfl (s_ialk (pc := 92) rw_71_92 hG10 rfl (n := 64) rfl rfl (A := x1.toInt) rfl (by omega) (by omega) (v := v78) w_79 (to_c (pc := 93) rw_71_93 (x := (-1 : Int32)) rfl rfl (b_ceq (pc := 94) rw_71_94 (A := v78.toInt) (B := -1) rfl rfl (fun h91 => ?_) (fun h91 => ?_)))))))))
                · refine s_inc (pc := 124) rw_71_124 (ls2 := fun v => [.ref 42, .int v, .int r8, .int (1 : Int32)]) rfl rfl (fun _ => rfl) (A := x1.toInt) (B := 1) rfl rfl (by omega) (fun v92 e93 => to_go (pc := 127) rw_71_127 ?_)
                  exact ih M11 v92 (.int r8) (.int (1 : Int32)) hG10 F12 (by omega) (by omega) (by omega)
                · refine to_in (pc := 97) rw_71_97 rfl (b_ieq_f (pc := 98) rw_71_98 (A := 1) rfl (by decide) (to_an (pc := 101) rw_71_101 rfl (to_in (pc := 102) rw_71_102 rfl (s_v (pc := 103) rw_71_103 (dp0 hd (by decide)) (ls0 := [.ref 42, .int x1, .null]) rfl (Nat.le_of_ble_eq_true rfl) (Nat.le_of_ble_eq_true rfl) rfl (to_rc rfl rfl rfl (g_o hG10 rfl)) rfl (C_74 hX (dp1 hd (by decide)) hG10 (by omega) (by omega) (s := x1) (fun r94 M99 hG96 F95 p_97 p_98 => ?_))))))
                  have F100 := FR.c F12 F95 tg_157
                  refine b_ieq (pc := 106) rw_71_106 (A := r94.toInt) rfl (fun h101 => ?_) (fun h101 => ?_)
                  · refine s_inc (pc := 124) rw_71_124 (ls2 := fun v => [.ref 42, .int v, .int r8, .int (1 : Int32)]) rfl rfl (fun _ => rfl) (A := x1.toInt) (B := 1) rfl rfl (by omega) (fun v102 e103 => to_go (pc := 127) rw_71_127 ?_)
                    exact ih M99 v102 (.int r8) (.int (1 : Int32)) hG96 F100 (by omega) (by omega) (by omega)
                  · refine to_an (pc := 109) rw_71_109 rfl (to_in (pc := 110) rw_71_110 rfl (s_pI (pc := 111) rw_71_111 hG96 rfl (fun M105 W104 => ?_)))
                    have hG106 := g_wf hG96 W104 rfl rfl (by decide)
                    have F107 := FR.w F100 W104 (show 42 ≤ 42 ∧ 42 ≤ 48 by decide)
                    refine to_an (pc := 114) rw_71_114 rfl (to_an (pc := 115) rw_71_115 rfl (s_gR (pc := 116) rw_71_116 hG106 rfl (v := 46) rfl (to_in (pc := 119) rw_71_119 rfl (s_ial (pc := 120) rw_71_120 hG106 rfl (n := 64) rfl rfl (A := x1.toInt) rfl (by omega) (by omega) (lo := -2147483648) (hi := 2147483647) rfl rfl (fun v108 w_109 _ _ => s_pI (pc := 121) rw_71_121 hG106 rfl (fun M111 W110 => ?_))))))
                    have hG112 := g_wf hG106 W110 rfl rfl (by decide)
                    have F113 := FR.w F107 W110 (show 42 ≤ 42 ∧ 42 ≤ 48 by decide)
                    refine s_inc (pc := 124) rw_71_124 (ls2 := fun v => [.ref 42, .int v, .int r8, .int (1 : Int32)]) rfl rfl (fun _ => rfl) (A := x1.toInt) (B := 1) rfl rfl (by omega) (fun v114 e115 => to_go (pc := 127) rw_71_127 ?_)
                    exact ih M111 v114 (.int r8) (.int (1 : Int32)) hG112 F113 (by omega) (by omega) (by omega)
      · refine to_an (pc := 28) rw_71_28 rfl (s_gR (pc := 29) rw_71_29 hG rfl (v := 46) rfl (to_in (pc := 32) rw_71_32 rfl (to_an (pc := 33) rw_71_33 rfl (to_in (pc := 34) rw_71_34 rfl (s_v (pc := 35) rw_71_35 (dp0 hd (by decide)) (ls0 := [.ref 42, .int x1, .null, .null, .null]) rfl (Nat.le_of_ble_eq_true rfl) (Nat.le_of_ble_eq_true rfl) rfl (to_rc rfl rfl rfl (g_o hG rfl)) rfl (C_72 hX (dp1 hd (by decide)) hG (by omega) (by omega) (s := x1) (fun r116 M119 hG118 F117 => ?_)))))))
        have F120 := FR.c F0 F117 tg_157
        refine s_ias (pc := 38) rw_71_38 hG118 rfl (n := 64) rfl (A := x1.toInt) rfl (by omega) (by omega) (fun M122 W121 => ?_)
        have hG123 := g_wf hG118 W121 rfl rfl (by decide)
        have F124 := FR.w F120 W121 (show 42 ≤ 46 ∧ 46 ≤ 48 by decide)
        refine to_in (pc := 39) rw_71_39 rfl (s_s (pc := 40) rw_71_40 (dp0 hd (by decide)) (ls0 := [.int x1]) rfl (Nat.le_of_ble_eq_true rfl) (Nat.le_of_ble_eq_true rfl) rfl (to_rcs rfl rfl) rfl (C_247 hX (dp1 hd (by decide)) hG123 (x := x1) (fun r125 M128 hG127 F126 => ?_)))
        have F129 := FR.c F124 F126 tg_156
        refine to_isn (pc := 43) rw_71_43 (ls2 := [.ref 42, .int x1, .int r125, u3]) rfl rfl (to_an (pc := 44) rw_71_44 rfl ?_)
        have c_130 : M128.2.1 42 8 = (N.2.1 42 8) := (F_n F126 (show ¬ (42 < 0) by decide) (W_n W121 (fun z => absurd z.1 (by decide)) (F_n F117 (show ¬ (43 ≤ 42 ∧ 42 ≤ 48) by decide) rfl)))
        refine tt_gI (pc := 45) rw_71_45 (g_o hG127 rfl) (v := (N.2.1 42 8)) c_130 (to_c (pc := 48) rw_71_48 (x := (-1 : Int32)) rfl rfl (b_ceq (pc := 49) rw_71_49 (A := (N.2.1 42 8).toInt) (B := -1) rfl rfl (fun h131 => ?_) (fun h131 => ?_)))
        · refine to_c (pc := 81) rw_71_81 (x := (1 : Int32)) rfl rfl (to_go (pc := 82) rw_71_82 (to_isn (pc := 86) rw_71_86 (ls2 := [.ref 42, .int x1, .int r125, .int (1 : Int32)]) rfl rfl (to_an (pc := 87) rw_71_87 rfl (s_gR (pc := 88) rw_71_88 hG127 rfl (v := 46) rfl (to_in (pc := 91) rw_71_91 rfl (s_ialk (pc := 92) rw_71_92 hG127 rfl (n := 64) rfl rfl (A := x1.toInt) rfl (by omega) (by omega) (v := r116) (F_n F126 (show ¬ (46 < 0) by decide) (W_e W121)) (to_c (pc := 93) rw_71_93 (x := (-1 : Int32)) rfl rfl (b_ceq (pc := 94) rw_71_94 (A := r116.toInt) (B := -1) rfl rfl (fun h134 => ?_) (fun h134 => ?_)))))))))
          · refine s_inc (pc := 124) rw_71_124 (ls2 := fun v => [.ref 42, .int v, .int r125, .int (1 : Int32)]) rfl rfl (fun _ => rfl) (A := x1.toInt) (B := 1) rfl rfl (by omega) (fun v135 e136 => to_go (pc := 127) rw_71_127 ?_)
            exact ih M128 v135 (.int r125) (.int (1 : Int32)) hG127 F129 (by omega) (by omega) (by omega)
          · refine to_in (pc := 97) rw_71_97 rfl (b_ieq_f (pc := 98) rw_71_98 (A := 1) rfl (by decide) (to_an (pc := 101) rw_71_101 rfl (to_in (pc := 102) rw_71_102 rfl (s_v (pc := 103) rw_71_103 (dp0 hd (by decide)) (ls0 := [.ref 42, .int x1, .null]) rfl (Nat.le_of_ble_eq_true rfl) (Nat.le_of_ble_eq_true rfl) rfl (to_rc rfl rfl rfl (g_o hG127 rfl)) rfl (C_74 hX (dp1 hd (by decide)) hG127 (by omega) (by omega) (s := x1) (fun r137 M142 hG139 F138 p_140 p_141 => ?_))))))
            have F143 := FR.c F129 F138 tg_157
            refine b_ieq (pc := 106) rw_71_106 (A := r137.toInt) rfl (fun h144 => ?_) (fun h144 => ?_)
            · refine s_inc (pc := 124) rw_71_124 (ls2 := fun v => [.ref 42, .int v, .int r125, .int (1 : Int32)]) rfl rfl (fun _ => rfl) (A := x1.toInt) (B := 1) rfl rfl (by omega) (fun v145 e146 => to_go (pc := 127) rw_71_127 ?_)
              exact ih M142 v145 (.int r125) (.int (1 : Int32)) hG139 F143 (by omega) (by omega) (by omega)
            · refine to_an (pc := 109) rw_71_109 rfl (to_in (pc := 110) rw_71_110 rfl (s_pI (pc := 111) rw_71_111 hG139 rfl (fun M148 W147 => ?_)))
              have hG149 := g_wf hG139 W147 rfl rfl (by decide)
              have F150 := FR.w F143 W147 (show 42 ≤ 42 ∧ 42 ≤ 48 by decide)
              refine to_an (pc := 114) rw_71_114 rfl (to_an (pc := 115) rw_71_115 rfl (s_gR (pc := 116) rw_71_116 hG149 rfl (v := 46) rfl (to_in (pc := 119) rw_71_119 rfl (s_ial (pc := 120) rw_71_120 hG149 rfl (n := 64) rfl rfl (A := x1.toInt) rfl (by omega) (by omega) (lo := -2147483648) (hi := 2147483647) rfl rfl (fun v151 w_152 _ _ => s_pI (pc := 121) rw_71_121 hG149 rfl (fun M154 W153 => ?_))))))
              have hG155 := g_wf hG149 W153 rfl rfl (by decide)
              have F156 := FR.w F150 W153 (show 42 ≤ 42 ∧ 42 ≤ 48 by decide)
              refine s_inc (pc := 124) rw_71_124 (ls2 := fun v => [.ref 42, .int v, .int r125, .int (1 : Int32)]) rfl rfl (fun _ => rfl) (A := x1.toInt) (B := 1) rfl rfl (by omega) (fun v157 e158 => to_go (pc := 127) rw_71_127 ?_)
              exact ih M154 v157 (.int r125) (.int (1 : Int32)) hG155 F156 (by omega) (by omega) (by omega)
        · refine to_in (pc := 52) rw_71_52 rfl (to_an (pc := 53) rw_71_53 rfl (tt_gI (pc := 54) rw_71_54 (g_o hG127 rfl) (v := (N.2.1 42 8)) c_130 (b_clt (pc := 57) rw_71_57 (A := r125.toInt) (B := (N.2.1 42 8).toInt) rfl rfl (fun h159 => ?_) (fun h159 => ?_))))
          · refine to_c (pc := 81) rw_71_81 (x := (1 : Int32)) rfl rfl (to_go (pc := 82) rw_71_82 (to_isn (pc := 86) rw_71_86 (ls2 := [.ref 42, .int x1, .int r125, .int (1 : Int32)]) rfl rfl (to_an (pc := 87) rw_71_87 rfl (s_gR (pc := 88) rw_71_88 hG127 rfl (v := 46) rfl (to_in (pc := 91) rw_71_91 rfl (s_ialk (pc := 92) rw_71_92 hG127 rfl (n := 64) rfl rfl (A := x1.toInt) rfl (by omega) (by omega) (v := r116) (F_n F126 (show ¬ (46 < 0) by decide) (W_e W121)) (to_c (pc := 93) rw_71_93 (x := (-1 : Int32)) rfl rfl (b_ceq (pc := 94) rw_71_94 (A := r116.toInt) (B := -1) rfl rfl (fun h162 => ?_) (fun h162 => ?_)))))))))
            · refine s_inc (pc := 124) rw_71_124 (ls2 := fun v => [.ref 42, .int v, .int r125, .int (1 : Int32)]) rfl rfl (fun _ => rfl) (A := x1.toInt) (B := 1) rfl rfl (by omega) (fun v163 e164 => to_go (pc := 127) rw_71_127 ?_)
              exact ih M128 v163 (.int r125) (.int (1 : Int32)) hG127 F129 (by omega) (by omega) (by omega)
            · refine to_in (pc := 97) rw_71_97 rfl (b_ieq_f (pc := 98) rw_71_98 (A := 1) rfl (by decide) (to_an (pc := 101) rw_71_101 rfl (to_in (pc := 102) rw_71_102 rfl (s_v (pc := 103) rw_71_103 (dp0 hd (by decide)) (ls0 := [.ref 42, .int x1, .null]) rfl (Nat.le_of_ble_eq_true rfl) (Nat.le_of_ble_eq_true rfl) rfl (to_rc rfl rfl rfl (g_o hG127 rfl)) rfl (C_74 hX (dp1 hd (by decide)) hG127 (by omega) (by omega) (s := x1) (fun r165 M170 hG167 F166 p_168 p_169 => ?_))))))
              have F171 := FR.c F129 F166 tg_157
              refine b_ieq (pc := 106) rw_71_106 (A := r165.toInt) rfl (fun h172 => ?_) (fun h172 => ?_)
              · refine s_inc (pc := 124) rw_71_124 (ls2 := fun v => [.ref 42, .int v, .int r125, .int (1 : Int32)]) rfl rfl (fun _ => rfl) (A := x1.toInt) (B := 1) rfl rfl (by omega) (fun v173 e174 => to_go (pc := 127) rw_71_127 ?_)
                exact ih M170 v173 (.int r125) (.int (1 : Int32)) hG167 F171 (by omega) (by omega) (by omega)
              · refine to_an (pc := 109) rw_71_109 rfl (to_in (pc := 110) rw_71_110 rfl (s_pI (pc := 111) rw_71_111 hG167 rfl (fun M176 W175 => ?_)))
                have hG177 := g_wf hG167 W175 rfl rfl (by decide)
                have F178 := FR.w F171 W175 (show 42 ≤ 42 ∧ 42 ≤ 48 by decide)
                refine to_an (pc := 114) rw_71_114 rfl (to_an (pc := 115) rw_71_115 rfl (s_gR (pc := 116) rw_71_116 hG177 rfl (v := 46) rfl (to_in (pc := 119) rw_71_119 rfl (s_ial (pc := 120) rw_71_120 hG177 rfl (n := 64) rfl rfl (A := x1.toInt) rfl (by omega) (by omega) (lo := -2147483648) (hi := 2147483647) rfl rfl (fun v179 w_180 _ _ => s_pI (pc := 121) rw_71_121 hG177 rfl (fun M182 W181 => ?_))))))
                have hG183 := g_wf hG177 W181 rfl rfl (by decide)
                have F184 := FR.w F178 W181 (show 42 ≤ 42 ∧ 42 ≤ 48 by decide)
                refine s_inc (pc := 124) rw_71_124 (ls2 := fun v => [.ref 42, .int v, .int r125, .int (1 : Int32)]) rfl rfl (fun _ => rfl) (A := x1.toInt) (B := 1) rfl rfl (by omega) (fun v185 e186 => to_go (pc := 127) rw_71_127 ?_)
                exact ih M182 v185 (.int r125) (.int (1 : Int32)) hG183 F184 (by omega) (by omega) (by omega)
          · refine to_in (pc := 60) rw_71_60 rfl (to_an (pc := 61) rw_71_61 rfl (tt_gI (pc := 62) rw_71_62 (g_o hG127 rfl) (v := (N.2.1 42 8)) c_130 (b_cne (pc := 65) rw_71_65 (A := r125.toInt) (B := (N.2.1 42 8).toInt) rfl rfl (fun h187 => ?_) (fun h187 => ?_))))
            · refine to_c (pc := 85) rw_71_85 (x := (0 : Int32)) rfl rfl (to_isn (pc := 86) rw_71_86 (ls2 := [.ref 42, .int x1, .int r125, .int (0 : Int32)]) rfl rfl (to_an (pc := 87) rw_71_87 rfl (s_gR (pc := 88) rw_71_88 hG127 rfl (v := 46) rfl (to_in (pc := 91) rw_71_91 rfl (s_ialk (pc := 92) rw_71_92 hG127 rfl (n := 64) rfl rfl (A := x1.toInt) rfl (by omega) (by omega) (v := r116) (F_n F126 (show ¬ (46 < 0) by decide) (W_e W121)) (to_c (pc := 93) rw_71_93 (x := (-1 : Int32)) rfl rfl (b_ceq (pc := 94) rw_71_94 (A := r116.toInt) (B := -1) rfl rfl (fun h190 => ?_) (fun h190 => ?_))))))))
              · refine s_inc (pc := 124) rw_71_124 (ls2 := fun v => [.ref 42, .int v, .int r125, .int (0 : Int32)]) rfl rfl (fun _ => rfl) (A := x1.toInt) (B := 1) rfl rfl (by omega) (fun v191 e192 => to_go (pc := 127) rw_71_127 ?_)
                exact ih M128 v191 (.int r125) (.int (0 : Int32)) hG127 F129 (by omega) (by omega) (by omega)
              · refine to_in (pc := 97) rw_71_97 rfl (b_ieq_t (pc := 98) rw_71_98 (A := 0) rfl (by decide) (s_inc (pc := 124) rw_71_124 (ls2 := fun v => [.ref 42, .int v, .int r125, .int (0 : Int32)]) rfl rfl (fun _ => rfl) (A := x1.toInt) (B := 1) rfl rfl (by omega) (fun v193 e194 => to_go (pc := 127) rw_71_127 ?_)))
                exact ih M128 v193 (.int r125) (.int (0 : Int32)) hG127 F129 (by omega) (by omega) (by omega)
            · refine to_an (pc := 68) rw_71_68 rfl (s_gR (pc := 69) rw_71_69 hG127 rfl (v := 46) rfl (to_in (pc := 72) rw_71_72 rfl (s_ialk (pc := 73) rw_71_73 hG127 rfl (n := 64) rfl rfl (A := x1.toInt) rfl (by omega) (by omega) (v := r116) (F_n F126 (show ¬ (46 < 0) by decide) (W_e W121)) (to_an (pc := 74) rw_71_74 rfl ?_))))
              have c_197 : M128.2.1 42 9 = (N.2.1 42 9) := (F_n F126 (show ¬ (42 < 0) by decide) (W_n W121 (fun z => absurd z.1 (by decide)) (F_n F117 (show ¬ (43 ≤ 42 ∧ 42 ≤ 48) by decide) rfl)))
              refine tt_gI (pc := 75) rw_71_75 (g_o hG127 rfl) (v := (N.2.1 42 9)) c_197 (b_cge (pc := 78) rw_71_78 (A := r116.toInt) (B := (N.2.1 42 9).toInt) rfl rfl (fun h198 => ?_) (fun h198 => ?_))
              · refine to_c (pc := 85) rw_71_85 (x := (0 : Int32)) rfl rfl (to_isn (pc := 86) rw_71_86 (ls2 := [.ref 42, .int x1, .int r125, .int (0 : Int32)]) rfl rfl (to_an (pc := 87) rw_71_87 rfl (s_gR (pc := 88) rw_71_88 hG127 rfl (v := 46) rfl (to_in (pc := 91) rw_71_91 rfl (s_ialk (pc := 92) rw_71_92 hG127 rfl (n := 64) rfl rfl (A := x1.toInt) rfl (by omega) (by omega) (v := r116) (F_n F126 (show ¬ (46 < 0) by decide) (W_e W121)) (to_c (pc := 93) rw_71_93 (x := (-1 : Int32)) rfl rfl (b_ceq (pc := 94) rw_71_94 (A := r116.toInt) (B := -1) rfl rfl (fun h201 => ?_) (fun h201 => ?_))))))))
                · refine s_inc (pc := 124) rw_71_124 (ls2 := fun v => [.ref 42, .int v, .int r125, .int (0 : Int32)]) rfl rfl (fun _ => rfl) (A := x1.toInt) (B := 1) rfl rfl (by omega) (fun v202 e203 => to_go (pc := 127) rw_71_127 ?_)
                  exact ih M128 v202 (.int r125) (.int (0 : Int32)) hG127 F129 (by omega) (by omega) (by omega)
                · refine to_in (pc := 97) rw_71_97 rfl (b_ieq_t (pc := 98) rw_71_98 (A := 0) rfl (by decide) (s_inc (pc := 124) rw_71_124 (ls2 := fun v => [.ref 42, .int v, .int r125, .int (0 : Int32)]) rfl rfl (fun _ => rfl) (A := x1.toInt) (B := 1) rfl rfl (by omega) (fun v204 e205 => to_go (pc := 127) rw_71_127 ?_)))
                  exact ih M128 v204 (.int r125) (.int (0 : Int32)) hG127 F129 (by omega) (by omega) (by omega)
              · refine to_c (pc := 81) rw_71_81 (x := (1 : Int32)) rfl rfl (to_go (pc := 82) rw_71_82 (to_isn (pc := 86) rw_71_86 (ls2 := [.ref 42, .int x1, .int r125, .int (1 : Int32)]) rfl rfl (to_an (pc := 87) rw_71_87 rfl (s_gR (pc := 88) rw_71_88 hG127 rfl (v := 46) rfl (to_in (pc := 91) rw_71_91 rfl (s_ialk (pc := 92) rw_71_92 hG127 rfl (n := 64) rfl rfl (A := x1.toInt) rfl (by omega) (by omega) (v := r116) (F_n F126 (show ¬ (46 < 0) by decide) (W_e W121)) (to_c (pc := 93) rw_71_93 (x := (-1 : Int32)) rfl rfl (b_ceq (pc := 94) rw_71_94 (A := r116.toInt) (B := -1) rfl rfl (fun h208 => ?_) (fun h208 => ?_)))))))))
                · refine s_inc (pc := 124) rw_71_124 (ls2 := fun v => [.ref 42, .int v, .int r125, .int (1 : Int32)]) rfl rfl (fun _ => rfl) (A := x1.toInt) (B := 1) rfl rfl (by omega) (fun v209 e210 => to_go (pc := 127) rw_71_127 ?_)
                  exact ih M128 v209 (.int r125) (.int (1 : Int32)) hG127 F129 (by omega) (by omega) (by omega)
                · refine to_in (pc := 97) rw_71_97 rfl (b_ieq_f (pc := 98) rw_71_98 (A := 1) rfl (by decide) (to_an (pc := 101) rw_71_101 rfl (to_in (pc := 102) rw_71_102 rfl (s_v (pc := 103) rw_71_103 (dp0 hd (by decide)) (ls0 := [.ref 42, .int x1, .null]) rfl (Nat.le_of_ble_eq_true rfl) (Nat.le_of_ble_eq_true rfl) rfl (to_rc rfl rfl rfl (g_o hG127 rfl)) rfl (C_74 hX (dp1 hd (by decide)) hG127 (by omega) (by omega) (s := x1) (fun r211 M216 hG213 F212 p_214 p_215 => ?_))))))
                  have F217 := FR.c F129 F212 tg_157
                  refine b_ieq (pc := 106) rw_71_106 (A := r211.toInt) rfl (fun h218 => ?_) (fun h218 => ?_)
                  · refine s_inc (pc := 124) rw_71_124 (ls2 := fun v => [.ref 42, .int v, .int r125, .int (1 : Int32)]) rfl rfl (fun _ => rfl) (A := x1.toInt) (B := 1) rfl rfl (by omega) (fun v219 e220 => to_go (pc := 127) rw_71_127 ?_)
                    exact ih M216 v219 (.int r125) (.int (1 : Int32)) hG213 F217 (by omega) (by omega) (by omega)
                  · refine to_an (pc := 109) rw_71_109 rfl (to_in (pc := 110) rw_71_110 rfl (s_pI (pc := 111) rw_71_111 hG213 rfl (fun M222 W221 => ?_)))
                    have hG223 := g_wf hG213 W221 rfl rfl (by decide)
                    have F224 := FR.w F217 W221 (show 42 ≤ 42 ∧ 42 ≤ 48 by decide)
                    refine to_an (pc := 114) rw_71_114 rfl (to_an (pc := 115) rw_71_115 rfl (s_gR (pc := 116) rw_71_116 hG223 rfl (v := 46) rfl (to_in (pc := 119) rw_71_119 rfl (s_ial (pc := 120) rw_71_120 hG223 rfl (n := 64) rfl rfl (A := x1.toInt) rfl (by omega) (by omega) (lo := -2147483648) (hi := 2147483647) rfl rfl (fun v225 w_226 _ _ => s_pI (pc := 121) rw_71_121 hG223 rfl (fun M228 W227 => ?_))))))
                    have hG229 := g_wf hG223 W227 rfl rfl (by decide)
                    have F230 := FR.w F224 W227 (show 42 ≤ 42 ∧ 42 ≤ 48 by decide)
                    refine s_inc (pc := 124) rw_71_124 (ls2 := fun v => [.ref 42, .int v, .int r125, .int (1 : Int32)]) rfl rfl (fun _ => rfl) (A := x1.toInt) (B := 1) rfl rfl (by omega) (fun v231 e232 => to_go (pc := 127) rw_71_127 ?_)
                    exact ih M228 v231 (.int r125) (.int (1 : Int32)) hG229 F230 (by omega) (by omega) (by omega)
set_option maxRecDepth 4000 in
set_option maxHeartbeats 0 in
theorem C_71 {X : mm_X} {d : Nat} {M : mm_M} {Q : Option Value → mm_M → Prop} (hX : g_X X) (hd : 2 ≤ d) (hG : g_G M) (h : ∀ (r : Int32) (M1 : mm_M), g_G M1 → FR md_s M M1 → (0 ≤ r.toInt) → (r.toInt ≤ 1) → Q (some (.int r)) M1) : mm_T X d 71 0 [.ref 42, .null, .null, .null] [] M Q := by
  have F0 : FR md_s M M := FR.rf
  refine to_an (pc := 0) rw_71_0 rfl (to_c (pc := 1) rw_71_1 (x := (-1 : Int32)) rfl rfl (s_pI (pc := 2) rw_71_2 hG rfl (fun M234 W233 => ?_)))
  have hG235 := g_wf hG W233 rfl rfl (by decide)
  have F236 := FR.w F0 W233 (show 42 ≤ 42 ∧ 42 ≤ 48 by decide)
  refine to_an (pc := 5) rw_71_5 rfl (s_gR (pc := 6) rw_71_6 hG235 rfl (v := 46) rfl (to_c (pc := 9) rw_71_9 (x := (0 : Int32)) rfl rfl (to_c (pc := 10) rw_71_10 (x := (0 : Int32)) rfl rfl (s_ias (pc := 11) rw_71_11 hG235 rfl (n := 64) rfl (A := 0) rfl (by omega) (by omega) (fun M238 W237 => ?_)))))
  have hG239 := g_wf hG235 W237 rfl rfl (by decide)
  have F240 := FR.w F236 W237 (show 42 ≤ 46 ∧ 46 ≤ 48 by decide)
  refine to_c (pc := 12) rw_71_12 (x := (0 : Int32)) rfl rfl (to_isn (pc := 13) rw_71_13 (ls2 := [.ref 42, .int (0 : Int32), .null, .null]) rfl rfl ?_)
  have k_241 : (0 : Int32).toInt = 0 := rfl
  exact (T_71_0 hX hd  h ((64 - (0 : Int32).toInt).toNat + 1)) M238 (0 : Int32) (.null) (.null) hG239 F240 (by omega) (by omega) (by omega)
