set_option maxRecDepth 4000 in
set_option maxHeartbeats 0 in
theorem T_243_0 {X : mm_X} {d : Nat} {M : mm_M} {Q : Option Value → mm_M → Prop} {p : Int32} {f : Int32} {n : Int32} (hX : g_X X) (hd : 1 ≤ d) (q1 : 0 ≤ p.toInt) (q2 : p.toInt ≤ 5) (q3 : 0 ≤ f.toInt) (q4 : f.toInt ≤ 7) (q5 : 0 ≤ n.toInt) (q6 : n.toInt ≤ 6) (h : ∀ (r : Int32) (M1 : mm_M), g_G M1 → FR md_so M M1 → (0 ≤ r.toInt) → (r.toInt ≤ 1) → Q (some (.int r)) M1) : ∀ nn9 : Nat, (∀ (N : mm_M) (u1 : Value) (u3 : Value) (x4 : Int32) (x5 : Int32) (u6 : Value) (u7 : Value), g_G N → FR md_so M N → (0 ≤ x4.toInt) → (x4.toInt ≤ 30) → (0 ≤ x5.toInt) → (1 ≤ x5.toInt) → (x5.toInt ≤ 31) → 31 - x5.toInt < (nn9 : Int) → mm_T X d 242 218 [.ref 77, u1, .int f, u3, .int x4, .int x5, u6, u7] [] N Q) := by
  intro nn9
  induction nn9 with
  | zero =>
    intro N u1 u3 x4 x5 u6 u7 hG F0 g1 g2 g3 g4 g5 hm
    exfalso; omega
  | succ nn9 ih =>
    intro N u1 u3 x4 x5 u6 u7 hG F0 g1 g2 g3 g4 g5 hm
    refine to_i (pc := 218) rw_243_218 rfl (to_i (pc := 220) rw_243_220 rfl (b_cge (pc := 222) rw_243_222 (A := x5.toInt) (B := x4.toInt) rfl rfl (fun h1 => ?_) (fun h1 => ?_)))
    · refine to_c (pc := 262) rw_243_262 (x := (1 : Int32)) rfl rfl (s_r1 (pc := 263) rw_243_263 (A := 1) rfl (by decide) ?_)
      have k_2 : (1 : Int32).toInt = 1 := rfl
      exact h (1 : Int32) N hG F0 (by decide) (by decide)
    · refine to_an (pc := 225) rw_243_225 rfl (to_an (pc := 226) rw_243_226 rfl (s_gR (pc := 227) rw_243_227 hG rfl (v := 121) rfl (to_i (pc := 230) rw_243_230 rfl (to_c (pc := 232) rw_243_232 (x := (1 : Int32)) rfl rfl (s_sub (pc := 233) rw_243_233 (A := x5.toInt) (B := 1) rfl rfl (by omega) (fun v3 e4 => s_ial (pc := 234) rw_243_234 hG rfl (n := 30) rfl rfl (A := v3.toInt) rfl (by omega) (by omega) (lo := 0) (hi := 29) rfl rfl (fun v5 w_6 _ _ => to_in (pc := 235) rw_243_235 rfl (s_v (pc := 236) rw_243_236 (dp0 hd (by decide)) (ls0 := [.ref 77, .int v5, .int f]) rfl (Nat.le_of_ble_eq_true rfl) (Nat.le_of_ble_eq_true rfl) rfl (to_rc rfl rfl rfl (g_o hG rfl)) rfl (to_an (pc := 0) rw_241_0 rfl (s_gR (pc := 1) rw_241_1 hG rfl (v := 97) rfl (to_c (pc := 4) rw_241_4 (x := (8 : Int32)) rfl rfl ?_)))))))))))
      refine to_in (pc := 6) rw_241_6 rfl (s_mul (pc := 7) rw_241_7 (A := 8) (B := v5.toInt) rfl rfl (by omega) (fun v7 e8 => to_in (pc := 8) rw_241_8 rfl (s_add (pc := 9) rw_241_9 (A := v7.toInt) (B := f.toInt) rfl rfl (by omega) (fun v9 e10 => s_ial (pc := 10) rw_241_10 hG rfl (n := 240) rfl rfl (A := v9.toInt) rfl (by omega) (by omega) (lo := -2147483648) (hi := 2147483647) rfl rfl (fun v11 w_12 _ _ => to_r0 (pc := 11) rw_241_11 (to_an (pc := 239) rw_243_239 rfl (to_an (pc := 240) rw_243_240 rfl (s_gR (pc := 241) rw_243_241 hG rfl (v := 121) rfl (to_i (pc := 244) rw_243_244 rfl (s_ial (pc := 246) rw_243_246 hG rfl (n := 30) rfl rfl (A := x5.toInt) rfl (by omega) (by omega) (lo := 0) (hi := 29) rfl rfl (fun v13 w_14 _ _ => to_in (pc := 247) rw_243_247 rfl ?_)))))))))))
      refine s_v (pc := 248) rw_243_248 (dp0 hd (by decide)) (ls0 := [.ref 77, .int v13, .int f]) rfl (Nat.le_of_ble_eq_true rfl) (Nat.le_of_ble_eq_true rfl) rfl (to_rc rfl rfl rfl (g_o hG rfl)) rfl (to_an (pc := 0) rw_241_0 rfl (s_gR (pc := 1) rw_241_1 hG rfl (v := 97) rfl (to_c (pc := 4) rw_241_4 (x := (8 : Int32)) rfl rfl (to_in (pc := 6) rw_241_6 rfl (s_mul (pc := 7) rw_241_7 (A := 8) (B := v13.toInt) rfl rfl (by omega) (fun v15 e16 => to_in (pc := 8) rw_241_8 rfl (s_add (pc := 9) rw_241_9 (A := v15.toInt) (B := f.toInt) rfl rfl (by omega) (fun v17 e18 => s_ial (pc := 10) rw_241_10 hG rfl (n := 240) rfl rfl (A := v17.toInt) rfl (by omega) (by omega) (lo := -2147483648) (hi := 2147483647) rfl rfl (fun v19 w_20 _ _ => to_r0 (pc := 11) rw_241_11 (b_cle (pc := 251) rw_243_251 (A := v11.toInt) (B := v19.toInt) rfl rfl (fun h21 => ?_) (fun h21 => ?_)))))))))))
      · refine s_inc (pc := 256) rw_243_256 (ls2 := fun v => [.ref 77, u1, .int f, u3, .int x4, .int v, u6, u7]) rfl rfl (fun _ => rfl) (A := x5.toInt) (B := 1) rfl rfl (by omega) (fun v22 e23 => to_go (pc := 259) rw_243_259 ?_)
        exact ih N (u1) (u3) x4 v22 (u6) (u7) hG F0 (by omega) (by omega) (by omega) (by omega) (by omega) (by omega)
      · refine to_c (pc := 254) rw_243_254 (x := (0 : Int32)) rfl rfl (s_r1 (pc := 255) rw_243_255 (A := 0) rfl (by decide) ?_)
        have k_24 : (0 : Int32).toInt = 0 := rfl
        exact h (0 : Int32) N hG F0 (by decide) (by decide)
set_option maxRecDepth 4000 in
set_option maxHeartbeats 0 in
theorem T_243_1 {X : mm_X} {d : Nat} {M : mm_M} {Q : Option Value → mm_M → Prop} {p : Int32} {f : Int32} {n : Int32} (hX : g_X X) (hd : 1 ≤ d) (q1 : 0 ≤ p.toInt) (q2 : p.toInt ≤ 5) (q3 : 0 ≤ f.toInt) (q4 : f.toInt ≤ 7) (q5 : 0 ≤ n.toInt) (q6 : n.toInt ≤ 6) (h : ∀ (r : Int32) (M1 : mm_M), g_G M1 → FR md_so M M1 → (0 ≤ r.toInt) → (r.toInt ≤ 1) → Q (some (.int r)) M1) : ∀ nn9 : Nat, (∀ (N : mm_M) (u1 : Value) (x4 : Int32) (x5 : Int32) (u6 : Value) (u7 : Value), g_G N → FR md_so M N → (0 ≤ x4.toInt) → (x4.toInt ≤ 30) → (0 ≤ x5.toInt) → (x5.toInt ≤ 6) → (6 - x5.toInt) * 1000 + 500 < (nn9 : Int) → mm_T X d 242 46 [.ref 77, u1, .int f, .int n, .int x4, .int x5, u6, u7] [] N Q) ∧ (∀ (N : mm_M) (u1 : Value) (x4 : Int32) (x5 : Int32) (x6 : Int32) (x7 : Int32), g_G N → FR md_so M N → (0 ≤ x4.toInt) → (x4.toInt ≤ 30) → (0 ≤ x5.toInt) → (x5.toInt ≤ 5) → (x5.toInt < n.toInt) → (0 ≤ x7.toInt) → (x7.toInt ≤ 30) → (x7.toInt ≤ x4.toInt) → (0 ≤ x6.toInt) → (x6.toInt ≤ 30) → (x6.toInt = NF N (N.2.1 123 (x5.toInt).toNat).toInt (x7.toInt).toNat) → (6 - x5.toInt) * 1000 + 400 - x7.toInt < (nn9 : Int) → mm_T X d 242 58 [.ref 77, u1, .int f, .int n, .int x4, .int x5, .int x6, .int x7] [] N Q) ∧ (∀ (N : mm_M) (u1 : Value) (x4 : Int32) (x5 : Int32) (x6 : Int32) (x7 : Int32), g_G N → FR md_so M N → (0 ≤ x4.toInt) → (x4.toInt ≤ 30) → (0 ≤ x5.toInt) → (x5.toInt ≤ 5) → (x5.toInt < n.toInt) → (0 ≤ x7.toInt) → (x7.toInt ≤ 30) → (x7.toInt ≤ x4.toInt) → (0 ≤ x6.toInt) → (x6.toInt ≤ 30) → (x6.toInt = NF N (N.2.1 123 (x5.toInt).toNat).toInt (x4.toInt).toNat + x7.toInt - NF N (N.2.1 123 (x5.toInt).toNat).toInt (x7.toInt).toNat) → (6 - x5.toInt) * 1000 + 300 - x7.toInt < (nn9 : Int) → mm_T X d 242 120 [.ref 77, u1, .int f, .int n, .int x4, .int x5, .int x6, .int x7] [] N Q) ∧ (∀ (N : mm_M) (u1 : Value) (x4 : Int32) (x5 : Int32) (u6 : Value) (x7 : Int32), g_G N → FR md_so M N → (0 ≤ x4.toInt) → (x4.toInt ≤ 30) → (0 ≤ x5.toInt) → (x5.toInt ≤ 5) → (0 ≤ x7.toInt) → (x7.toInt ≤ 30) → (6 - x5.toInt) * 1000 + 200 - x7.toInt < (nn9 : Int) → mm_T X d 242 182 [.ref 77, u1, .int f, .int n, .int x4, .int x5, u6, .int x7] [] N Q) := by
  intro nn9
  induction nn9 with
  | zero =>
    refine ⟨?_, ?_, ?_, ?_⟩
    · intro N u1 x4 x5 u6 u7 hG F0 g1 g2 g3 g4 hm
      exfalso; omega
    · intro N u1 x4 x5 x6 x7 hG F0 g1 g2 g3 g4 g5 g6 g7 g8 g9 g10 g11 hm
      exfalso; omega
    · intro N u1 x4 x5 x6 x7 hG F0 g1 g2 g3 g4 g5 g6 g7 g8 g9 g10 g11 hm
      exfalso; omega
    · intro N u1 x4 x5 u6 x7 hG F0 g1 g2 g3 g4 g5 g6 hm
      exfalso; omega
  | succ nn9 ih =>
    refine ⟨?_, ?_, ?_, ?_⟩
    · intro N u1 x4 x5 u6 u7 hG F0 g1 g2 g3 g4 hm
      refine to_i (pc := 46) rw_243_46 rfl (to_in (pc := 48) rw_243_48 rfl (b_cge (pc := 49) rw_243_49 (A := x5.toInt) (B := n.toInt) rfl rfl (fun h25 => ?_) (fun h25 => ?_)))
      · refine to_c (pc := 215) rw_243_215 (x := (1 : Int32)) rfl rfl (to_is (pc := 216) rw_243_216 (ls2 := [.ref 77, u1, .int f, .int n, .int x4, .int (1 : Int32), u6, u7]) rfl rfl ?_)
        have k_26 : (1 : Int32).toInt = 1 := rfl
        exact (T_243_0 (p := p) (f := f) (n := n) hX hd q1 q2 q3 q4 q5 q6 h ((31 - (1 : Int32).toInt).toNat + 1)) N (u1) (.int n) x4 (1 : Int32) (u6) (u7) hG F0 (by omega) (by omega) (by omega) (by omega) (by omega) (by omega)
      · refine to_c (pc := 52) rw_243_52 (x := (0 : Int32)) rfl rfl (to_is (pc := 53) rw_243_53 (ls2 := [.ref 77, u1, .int f, .int n, .int x4, .int x5, .int (0 : Int32), u7]) rfl rfl (to_c (pc := 55) rw_243_55 (x := (0 : Int32)) rfl rfl (to_is (pc := 56) rw_243_56 (ls2 := [.ref 77, u1, .int f, .int n, .int x4, .int x5, .int (0 : Int32), .int (0 : Int32)]) rfl rfl ?_)))
        have k_27 : (0 : Int32).toInt = 0 := rfl
        have s_28 : NF N (N.2.1 123 (x5.toInt).toNat).toInt ((0 : Int32).toInt).toNat = 0 := rfl
        exact ih.2.1 N (u1) x4 x5 (0 : Int32) (0 : Int32) hG F0 (by omega) (by omega) (by omega) (by omega) (by omega) (by omega) (by omega) (by omega) (by omega) (by omega) (by omega) (by omega)
    · intro N u1 x4 x5 x6 x7 hG F0 g1 g2 g3 g4 g5 g6 g7 g8 g9 g10 g11 hm
      have s_o := NF_b (M := N) (r := (N.2.1 123 (x5.toInt).toNat).toInt) (x7.toInt).toNat
      have s_t := NF_t (M := N) (r := (N.2.1 123 (x5.toInt).toNat).toInt) (k := (x7.toInt).toNat) (m := (x4.toInt).toNat) (by omega)
      refine to_i (pc := 58) rw_243_58 rfl (to_i (pc := 60) rw_243_60 rfl (b_cge (pc := 62) rw_243_62 (A := x7.toInt) (B := x4.toInt) rfl rfl (fun h29 => ?_) (fun h29 => ?_)))
      · refine to_c (pc := 117) rw_243_117 (x := (0 : Int32)) rfl rfl (to_is (pc := 118) rw_243_118 (ls2 := [.ref 77, u1, .int f, .int n, .int x4, .int x5, .int x6, .int (0 : Int32)]) rfl rfl ?_)
        have k_30 : (0 : Int32).toInt = 0 := rfl
        have s_31 : NF N (N.2.1 123 (x5.toInt).toNat).toInt ((0 : Int32).toInt).toNat = 0 := rfl
        have s_32 : NF N (N.2.1 123 (x5.toInt).toNat).toInt (x7.toInt).toNat = NF N (N.2.1 123 (x5.toInt).toNat).toInt (x4.toInt).toNat := by rw [show (x7.toInt).toNat = (x4.toInt).toNat by omega]
        exact ih.2.2.1 N (u1) x4 x5 x6 (0 : Int32) hG F0 (by omega) (by omega) (by omega) (by omega) (by omega) (by omega) (by omega) (by omega) (by omega) (by omega) (by omega) (by omega)
      · refine to_an (pc := 65) rw_243_65 rfl (s_gR (pc := 66) rw_243_66 hG rfl (v := 124) rfl (to_c (pc := 69) rw_243_69 (x := (6 : Int32)) rfl rfl (to_an (pc := 71) rw_243_71 rfl (s_gR (pc := 72) rw_243_72 hG rfl (v := 121) rfl (to_i (pc := 75) rw_243_75 rfl (s_ial (pc := 77) rw_243_77 hG rfl (n := 30) rfl rfl (A := x7.toInt) rfl (by omega) (by omega) (lo := 0) (hi := 29) rfl rfl (fun v33 w_34 _ _ => s_mul (pc := 78) rw_243_78 (A := 6) (B := v33.toInt) rfl rfl (by omega) (fun v35 e36 => to_an (pc := 79) rw_243_79 rfl (s_gR (pc := 80) rw_243_80 hG rfl (v := 123) rfl (to_i (pc := 83) rw_243_83 rfl (s_ial (pc := 85) rw_243_85 hG rfl (n := 6) rfl rfl (A := x5.toInt) rfl (by omega) (by omega) (lo := 0) (hi := 5) rfl rfl (fun v37 w_38 _ _ => ?_))))))))))))
        refine s_add (pc := 86) rw_243_86 (A := v35.toInt) (B := v37.toInt) rfl rfl (by omega) (fun v39 e40 => s_bal (pc := 87) rw_243_87 hG rfl (n := 180) rfl (A := v39.toInt) rfl (by omega) (by omega) (lo := 0) (hi := 1) rfl rfl (fun v41 w_42 _ _ => ?_))
        have s_43 := NF_v (M := N) (r := (N.2.1 123 (x5.toInt).toNat).toInt) (I := v39.toInt) (k := (x7.toInt).toNat) w_34 (by rw [w_38]; omega) w_42
        refine b_ieq (pc := 88) rw_243_88 (A := v41.toInt) rfl (fun h44 => ?_) (fun h44 => ?_)
        · refine to_an (pc := 94) rw_243_94 rfl (s_gR (pc := 95) rw_243_95 hG rfl (v := 122) rfl (to_i (pc := 98) rw_243_98 rfl (to_an (pc := 100) rw_243_100 rfl (s_gR (pc := 101) rw_243_101 hG rfl (v := 121) rfl (to_i (pc := 104) rw_243_104 rfl (s_ialk (pc := 106) rw_243_106 hG rfl (n := 30) rfl rfl (A := x7.toInt) rfl (by omega) (by omega) (v := v33) w_34 (s_ias (pc := 107) rw_243_107 hG rfl (n := 30) rfl (A := x6.toInt) rfl (by omega) (by omega) (fun M48 W47 => ?_))))))))
          have hG49 := g_w hG W47 (A := v33.toInt) rfl (lo := 0) (hi := 29) rfl rfl (by omega) (by decide)
          have F50 := FR.w F0 W47 (show 122 = 121 ∨ 122 = 122 by decide)
          refine s_inc (pc := 108) rw_243_108 (ls2 := fun v => [.ref 77, u1, .int f, .int n, .int x4, .int x5, .int v, .int x7]) rfl rfl (fun _ => rfl) (A := x6.toInt) (B := 1) rfl rfl (by omega) (fun v51 e52 => s_inc (pc := 111) rw_243_111 (ls2 := fun v => [.ref 77, u1, .int f, .int n, .int x4, .int x5, .int v51, .int v]) rfl rfl (fun _ => rfl) (A := x7.toInt) (B := 1) rfl rfl (by omega) (fun v53 e54 => to_go (pc := 114) rw_243_114 ?_))
          have s_55 : (M48.2.1 123 (x5.toInt).toNat).toInt = (N.2.1 123 (x5.toInt).toNat).toInt := congrArg Int32.toInt (W_n W47 (by omega) rfl)
          have s_56 : NF M48 (M48.2.1 123 (x5.toInt).toNat).toInt (v53.toInt).toNat = NF N (N.2.1 123 (x5.toInt).toNat).toInt (v53.toInt).toNat := by rw [show (M48.2.1 123 (x5.toInt).toNat).toInt = (N.2.1 123 (x5.toInt).toNat).toInt by omega]; exact NF_f (fun a i z => (W_n W47 (by /-r122-/ omega) rfl)) _
          have s_57 : NF N (N.2.1 123 (x5.toInt).toNat).toInt (v53.toInt).toNat = NF N (N.2.1 123 (x5.toInt).toNat).toInt ((x7.toInt).toNat + 1) := by rw [show (v53.toInt).toNat = (x7.toInt).toNat + 1 by omega]
          exact ih.2.1 M48 (u1) x4 x5 v51 v53 hG49 F50 (by omega) (by omega) (by omega) (by omega) (by omega) (by omega) (by omega) (by omega) (by omega) (by omega) (by omega) (by omega)
        · refine to_go (pc := 91) rw_243_91 (s_inc (pc := 111) rw_243_111 (ls2 := fun v => [.ref 77, u1, .int f, .int n, .int x4, .int x5, .int x6, .int v]) rfl rfl (fun _ => rfl) (A := x7.toInt) (B := 1) rfl rfl (by omega) (fun v58 e59 => to_go (pc := 114) rw_243_114 ?_))
          have s_60 : NF N (N.2.1 123 (x5.toInt).toNat).toInt (v58.toInt).toNat = NF N (N.2.1 123 (x5.toInt).toNat).toInt ((x7.toInt).toNat + 1) := by rw [show (v58.toInt).toNat = (x7.toInt).toNat + 1 by omega]
          exact ih.2.1 N (u1) x4 x5 x6 v58 hG F0 (by omega) (by omega) (by omega) (by omega) (by omega) (by omega) (by omega) (by omega) (by omega) (by omega) (by omega) (by omega)
    · intro N u1 x4 x5 x6 x7 hG F0 g1 g2 g3 g4 g5 g6 g7 g8 g9 g10 g11 hm
      have s_o := NF_b (M := N) (r := (N.2.1 123 (x5.toInt).toNat).toInt) (x7.toInt).toNat
      have s_t := NF_t (M := N) (r := (N.2.1 123 (x5.toInt).toNat).toInt) (k := (x7.toInt).toNat) (m := (x4.toInt).toNat) (by omega)
      have s_t2 := fun (hh : x7.toInt < x4.toInt) => NF_t (M := N) (r := (N.2.1 123 (x5.toInt).toNat).toInt) (k := (x7.toInt).toNat + 1) (m := (x4.toInt).toNat) (by omega)
      refine to_i (pc := 120) rw_243_120 rfl (to_i (pc := 122) rw_243_122 rfl (b_cge (pc := 124) rw_243_124 (A := x7.toInt) (B := x4.toInt) rfl rfl (fun h61 => ?_) (fun h61 => ?_)))
      · refine to_c (pc := 179) rw_243_179 (x := (0 : Int32)) rfl rfl (to_is (pc := 180) rw_243_180 (ls2 := [.ref 77, u1, .int f, .int n, .int x4, .int x5, .int x6, .int (0 : Int32)]) rfl rfl ?_)
        have k_62 : (0 : Int32).toInt = 0 := rfl
        exact ih.2.2.2 N (u1) x4 x5 (.int x6) (0 : Int32) hG F0 (by omega) (by omega) (by omega) (by omega) (by omega) (by omega) (by omega)
      · refine to_an (pc := 127) rw_243_127 rfl (s_gR (pc := 128) rw_243_128 hG rfl (v := 124) rfl (to_c (pc := 131) rw_243_131 (x := (6 : Int32)) rfl rfl (to_an (pc := 133) rw_243_133 rfl (s_gR (pc := 134) rw_243_134 hG rfl (v := 121) rfl (to_i (pc := 137) rw_243_137 rfl (s_ial (pc := 139) rw_243_139 hG rfl (n := 30) rfl rfl (A := x7.toInt) rfl (by omega) (by omega) (lo := 0) (hi := 29) rfl rfl (fun v63 w_64 _ _ => s_mul (pc := 140) rw_243_140 (A := 6) (B := v63.toInt) rfl rfl (by omega) (fun v65 e66 => to_an (pc := 141) rw_243_141 rfl (s_gR (pc := 142) rw_243_142 hG rfl (v := 123) rfl (to_i (pc := 145) rw_243_145 rfl (s_ial (pc := 147) rw_243_147 hG rfl (n := 6) rfl rfl (A := x5.toInt) rfl (by omega) (by omega) (lo := 0) (hi := 5) rfl rfl (fun v67 w_68 _ _ => ?_))))))))))))
        refine s_add (pc := 148) rw_243_148 (A := v65.toInt) (B := v67.toInt) rfl rfl (by omega) (fun v69 e70 => s_bal (pc := 149) rw_243_149 hG rfl (n := 180) rfl (A := v69.toInt) rfl (by omega) (by omega) (lo := 0) (hi := 1) rfl rfl (fun v71 w_72 _ _ => ?_))
        have s_73 := NF_v (M := N) (r := (N.2.1 123 (x5.toInt).toNat).toInt) (I := v69.toInt) (k := (x7.toInt).toNat) w_64 (by rw [w_68]; omega) w_72
        have s_74 := s_t2 (by omega)
        refine b_ine (pc := 150) rw_243_150 (A := v71.toInt) rfl (fun h75 => ?_) (fun h75 => ?_)
        · refine to_an (pc := 156) rw_243_156 rfl (s_gR (pc := 157) rw_243_157 hG rfl (v := 122) rfl (to_i (pc := 160) rw_243_160 rfl (to_an (pc := 162) rw_243_162 rfl (s_gR (pc := 163) rw_243_163 hG rfl (v := 121) rfl (to_i (pc := 166) rw_243_166 rfl (s_ialk (pc := 168) rw_243_168 hG rfl (n := 30) rfl rfl (A := x7.toInt) rfl (by omega) (by omega) (v := v63) w_64 (s_ias (pc := 169) rw_243_169 hG rfl (n := 30) rfl (A := x6.toInt) rfl (by omega) (by omega) (fun M79 W78 => ?_))))))))
          have hG80 := g_w hG W78 (A := v63.toInt) rfl (lo := 0) (hi := 29) rfl rfl (by omega) (by decide)
          have F81 := FR.w F0 W78 (show 122 = 121 ∨ 122 = 122 by decide)
          refine s_inc (pc := 170) rw_243_170 (ls2 := fun v => [.ref 77, u1, .int f, .int n, .int x4, .int x5, .int v, .int x7]) rfl rfl (fun _ => rfl) (A := x6.toInt) (B := 1) rfl rfl (by omega) (fun v82 e83 => s_inc (pc := 173) rw_243_173 (ls2 := fun v => [.ref 77, u1, .int f, .int n, .int x4, .int x5, .int v82, .int v]) rfl rfl (fun _ => rfl) (A := x7.toInt) (B := 1) rfl rfl (by omega) (fun v84 e85 => to_go (pc := 176) rw_243_176 ?_))
          have s_86 : (M79.2.1 123 (x5.toInt).toNat).toInt = (N.2.1 123 (x5.toInt).toNat).toInt := congrArg Int32.toInt (W_n W78 (by omega) rfl)
          have s_87 : NF M79 (M79.2.1 123 (x5.toInt).toNat).toInt (v84.toInt).toNat = NF N (N.2.1 123 (x5.toInt).toNat).toInt (v84.toInt).toNat := by rw [show (M79.2.1 123 (x5.toInt).toNat).toInt = (N.2.1 123 (x5.toInt).toNat).toInt by omega]; exact NF_f (fun a i z => (W_n W78 (by /-r122-/ omega) rfl)) _
          have s_88 : NF N (N.2.1 123 (x5.toInt).toNat).toInt (v84.toInt).toNat = NF N (N.2.1 123 (x5.toInt).toNat).toInt ((x7.toInt).toNat + 1) := by rw [show (v84.toInt).toNat = (x7.toInt).toNat + 1 by omega]
          have s_89 : NF M79 (M79.2.1 123 (x5.toInt).toNat).toInt (x4.toInt).toNat = NF N (N.2.1 123 (x5.toInt).toNat).toInt (x4.toInt).toNat := by rw [show (M79.2.1 123 (x5.toInt).toNat).toInt = (N.2.1 123 (x5.toInt).toNat).toInt by omega]; exact NF_f (fun a i z => (W_n W78 (by /-r122-/ omega) rfl)) _
          exact ih.2.2.1 M79 (u1) x4 x5 v82 v84 hG80 F81 (by omega) (by omega) (by omega) (by omega) (by omega) (by omega) (by omega) (by omega) (by omega) (by omega) (by omega) (by omega)
        · refine to_go (pc := 153) rw_243_153 (s_inc (pc := 173) rw_243_173 (ls2 := fun v => [.ref 77, u1, .int f, .int n, .int x4, .int x5, .int x6, .int v]) rfl rfl (fun _ => rfl) (A := x7.toInt) (B := 1) rfl rfl (by omega) (fun v90 e91 => to_go (pc := 176) rw_243_176 ?_))
          have s_92 : NF N (N.2.1 123 (x5.toInt).toNat).toInt (v90.toInt).toNat = NF N (N.2.1 123 (x5.toInt).toNat).toInt ((x7.toInt).toNat + 1) := by rw [show (v90.toInt).toNat = (x7.toInt).toNat + 1 by omega]
          exact ih.2.2.1 N (u1) x4 x5 x6 v90 hG F0 (by omega) (by omega) (by omega) (by omega) (by omega) (by omega) (by omega) (by omega) (by omega) (by omega) (by omega) (by omega)
    · intro N u1 x4 x5 u6 x7 hG F0 g1 g2 g3 g4 g5 g6 hm
      refine to_i (pc := 182) rw_243_182 rfl (to_i (pc := 184) rw_243_184 rfl (b_cge (pc := 186) rw_243_186 (A := x7.toInt) (B := x4.toInt) rfl rfl (fun h93 => ?_) (fun h93 => ?_)))
      · refine s_inc (pc := 209) rw_243_209 (ls2 := fun v => [.ref 77, u1, .int f, .int n, .int x4, .int v, u6, .int x7]) rfl rfl (fun _ => rfl) (A := x5.toInt) (B := 1) rfl rfl (by omega) (fun v94 e95 => to_go (pc := 212) rw_243_212 ?_)
        exact ih.1 N (u1) x4 v94 (u6) (.int x7) hG F0 (by omega) (by omega) (by omega) (by omega) (by omega)
      · refine to_an (pc := 189) rw_243_189 rfl (s_gR (pc := 190) rw_243_190 hG rfl (v := 121) rfl (to_i (pc := 193) rw_243_193 rfl (to_an (pc := 195) rw_243_195 rfl (s_gR (pc := 196) rw_243_196 hG rfl (v := 122) rfl (to_i (pc := 199) rw_243_199 rfl (s_ial (pc := 201) rw_243_201 hG rfl (n := 30) rfl rfl (A := x7.toInt) rfl (by omega) (by omega) (lo := 0) (hi := 29) rfl rfl (fun v96 w_97 _ _ => s_ias (pc := 202) rw_243_202 hG rfl (n := 30) rfl (A := x7.toInt) rfl (by omega) (by omega) (fun M99 W98 => ?_))))))))
        have hG100 := g_w hG W98 (A := v96.toInt) rfl (lo := 0) (hi := 29) rfl rfl (by omega) (by decide)
        have F101 := FR.w F0 W98 (show 121 = 121 ∨ 121 = 122 by decide)
        refine s_inc (pc := 203) rw_243_203 (ls2 := fun v => [.ref 77, u1, .int f, .int n, .int x4, .int x5, u6, .int v]) rfl rfl (fun _ => rfl) (A := x7.toInt) (B := 1) rfl rfl (by omega) (fun v102 e103 => to_go (pc := 206) rw_243_206 ?_)
        exact ih.2.2.2 M99 (u1) x4 x5 (u6) v102 hG100 F101 (by omega) (by omega) (by omega) (by omega) (by omega) (by omega) (by omega)
set_option maxRecDepth 4000 in
set_option maxHeartbeats 0 in
theorem T_243_2 {X : mm_X} {d : Nat} {M : mm_M} {Q : Option Value → mm_M → Prop} {p : Int32} {f : Int32} {n : Int32} (hX : g_X X) (hd : 1 ≤ d) (q1 : 0 ≤ p.toInt) (q2 : p.toInt ≤ 5) (q3 : 0 ≤ f.toInt) (q4 : f.toInt ≤ 7) (q5 : 0 ≤ n.toInt) (q6 : n.toInt ≤ 6) (h : ∀ (r : Int32) (M1 : mm_M), g_G M1 → FR md_so M M1 → (0 ≤ r.toInt) → (r.toInt ≤ 1) → Q (some (.int r)) M1) : ∀ nn9 : Nat, (∀ (N : mm_M) (x4 : Int32) (x5 : Int32) (u6 : Value) (u7 : Value), g_G N → FR md_so M N → (0 ≤ x4.toInt) → (x4.toInt ≤ 30) → (0 ≤ x5.toInt) → (x5.toInt ≤ 30) → 30 - x5.toInt < (nn9 : Int) → mm_T X d 242 11 [.ref 77, .int p, .int f, .int n, .int x4, .int x5, u6, u7] [] N Q) := by
  intro nn9
  induction nn9 with
  | zero =>
    intro N x4 x5 u6 u7 hG F0 g1 g2 g3 g4 hm
    exfalso; omega
  | succ nn9 ih =>
    intro N x4 x5 u6 u7 hG F0 g1 g2 g3 g4 hm
    refine to_i (pc := 11) rw_243_11 rfl (to_i (pc := 13) rw_243_13 rfl (b_cge (pc := 15) rw_243_15 (A := x5.toInt) (B := x4.toInt) rfl rfl (fun h104 => ?_) (fun h104 => ?_)))
    · refine to_c (pc := 43) rw_243_43 (x := (0 : Int32)) rfl rfl (to_is (pc := 44) rw_243_44 (ls2 := [.ref 77, .int p, .int f, .int n, .int x4, .int (0 : Int32), u6, u7]) rfl rfl ?_)
      have k_105 : (0 : Int32).toInt = 0 := rfl
      exact (T_243_1 (p := p) (f := f) (n := n) hX hd q1 q2 q3 q4 q5 q6 h (((6 - (0 : Int32).toInt) * 1000 + 500).toNat + 1)).1 N (.int p) x4 (0 : Int32) (u6) (u7) hG F0 (by omega) (by omega) (by omega) (by omega) (by omega)
    · refine to_an (pc := 18) rw_243_18 rfl (s_gR (pc := 19) rw_243_19 hG rfl (v := 121) rfl (to_i (pc := 22) rw_243_22 rfl (to_an (pc := 24) rw_243_24 rfl (s_gR (pc := 25) rw_243_25 hG rfl (v := 99) rfl (to_c (pc := 28) rw_243_28 (x := (30 : Int32)) rfl rfl (to_in (pc := 30) rw_243_30 rfl (s_mul (pc := 31) rw_243_31 (A := 30) (B := p.toInt) rfl rfl (by omega) (fun v106 e107 => to_i (pc := 32) rw_243_32 rfl (s_add (pc := 34) rw_243_34 (A := v106.toInt) (B := x5.toInt) rfl rfl (by omega) (fun v108 e109 => s_ial (pc := 35) rw_243_35 hG rfl (n := 180) rfl rfl (A := v108.toInt) rfl (by omega) (by omega) (lo := 0) (hi := 29) rfl rfl (fun v110 w_111 _ _ => s_ias (pc := 36) rw_243_36 hG rfl (n := 30) rfl (A := x5.toInt) rfl (by omega) (by omega) (fun M113 W112 => ?_))))))))))))
      have hG114 := g_w hG W112 (A := v110.toInt) rfl (lo := 0) (hi := 29) rfl rfl (by omega) (by decide)
      have F115 := FR.w F0 W112 (show 121 = 121 ∨ 121 = 122 by decide)
      refine s_inc (pc := 37) rw_243_37 (ls2 := fun v => [.ref 77, .int p, .int f, .int n, .int x4, .int v, u6, u7]) rfl rfl (fun _ => rfl) (A := x5.toInt) (B := 1) rfl rfl (by omega) (fun v116 e117 => to_go (pc := 40) rw_243_40 ?_)
      exact ih M113 x4 v116 (u6) (u7) hG114 F115 (by omega) (by omega) (by omega) (by omega) (by omega)
set_option maxRecDepth 4000 in
set_option maxHeartbeats 0 in
theorem C_243 {X : mm_X} {d : Nat} {M : mm_M} {Q : Option Value → mm_M → Prop} {p : Int32} {f : Int32} {n : Int32} (hX : g_X X) (hd : 1 ≤ d) (hG : g_G M) (q1 : 0 ≤ p.toInt) (q2 : p.toInt ≤ 5) (q3 : 0 ≤ f.toInt) (q4 : f.toInt ≤ 7) (q5 : 0 ≤ n.toInt) (q6 : n.toInt ≤ 6) (h : ∀ (r : Int32) (M1 : mm_M), g_G M1 → FR md_so M M1 → (0 ≤ r.toInt) → (r.toInt ≤ 1) → Q (some (.int r)) M1) : mm_T X d 242 0 [.ref 77, .int p, .int f, .int n, .null, .null, .null, .null] [] M Q := by
  have F0 : FR md_so M M := FR.rf
  refine to_an (pc := 0) rw_243_0 rfl (s_gR (pc := 1) rw_243_1 hG rfl (v := 100) rfl (to_in (pc := 4) rw_243_4 rfl (s_ial (pc := 5) rw_243_5 hG rfl (n := 6) rfl rfl (A := p.toInt) rfl (by omega) (by omega) (lo := 0) (hi := 30) rfl rfl (fun v118 w_119 _ _ => to_is (pc := 6) rw_243_6 (ls2 := [.ref 77, .int p, .int f, .int n, .int v118, .null, .null, .null]) rfl rfl (to_c (pc := 8) rw_243_8 (x := (0 : Int32)) rfl rfl (to_is (pc := 9) rw_243_9 (ls2 := [.ref 77, .int p, .int f, .int n, .int v118, .int (0 : Int32), .null, .null]) rfl rfl ?_))))))
  have k_120 : (0 : Int32).toInt = 0 := rfl
  exact (T_243_2 (p := p) (f := f) (n := n) hX hd q1 q2 q3 q4 q5 q6 h ((30 - (0 : Int32).toInt).toNat + 1)) M v118 (0 : Int32) (.null) (.null) hG F0 (by omega) (by omega) (by omega) (by omega) (by omega)
