theorem tg_139 : ∀ a i : Nat, (a < 0) → (a = 27) := fun a i z => by omega
theorem tg_140 : ∀ a i : Nat, (19 ≤ a ∧ a ≤ 25) → (19 ≤ a ∧ a ≤ 26) := fun a i z => by omega
set_option maxRecDepth 4000 in
set_option maxHeartbeats 0 in
theorem U_25_0 {X : mm_X} {d : Nat} {M : mm_M} {Q : Option Value → mm_M → Prop} {x : Int64} {y : Int32} (hX : g_X X) (hd : 0 ≤ d) (q1 : 0 ≤ y.toInt) (q2 : y.toInt ≤ 60) (h : ∀ (r : Int64) (M1 : mm_M), g_G M1 → FR md_0 M M1 → (x_mi x y.toInt r) → Q (some (.long r)) M1) : ∀ nn9 : Nat, (∀ (N : mm_M) (y3 : Int64) (x5 : Int32), g_G N → FR md_0 M N → (0 ≤ x5.toInt) → (x5.toInt ≤ 60) → (x5.toInt ≤ y.toInt) → (x_mi x x5.toInt y3) → 60 - x5.toInt < (nn9 : Int) → mm_T X d 25 5 [.long x, .null, .int y, .long y3, .null, .int x5] [] N Q) := by
  intro nn9
  induction nn9 with
  | zero =>
    intro N y3 x5 hG F0 g1 g2 g3 g4 hm
    exfalso; omega
  | succ nn9 ih =>
    intro N y3 x5 hG F0 g1 g2 g3 g4 hm
    refine to_i (pc := 5) rw_25_5 rfl (to_in (pc := 7) rw_25_7 rfl (b_cge (pc := 8) rw_25_8 (A := x5.toInt) (B := y.toInt) rfl rfl (fun h1 => ?_) (fun h1 => ?_)))
    · refine to_ln (pc := 28) rw_25_28 rfl rfl rfl (to_rl (pc := 29) rw_25_29 ?_)
      exact h y3 N hG F0 (x_mi_v (by omega) g4)
    · refine to_ln (pc := 11) rw_25_11 rfl rfl rfl (to_c (pc := 12) rw_25_12 (x := (1 : Int32)) rfl rfl (to_2s (pc := 13) rw_25_13 (v := (y3 <<< ((1 : Int32).toInt64 &&& 63))) rfl ?_))
      have k_2 : (1 : Int32).toInt = 1 := rfl
      refine to_ln (pc := 14) rw_25_14 rfl rfl rfl (to_i (pc := 15) rw_25_15 rfl (to_2s (pc := 17) rw_25_17 (v := (x >>> (x5.toInt64 &&& 63))) rfl (to_cl (pc := 18) rw_25_18 rfl (x := (1 : Int64)) rfl (to_2l (pc := 19) rw_25_19 (v := ((x >>> (x5.toInt64 &&& 63)) &&& (1 : Int64))) rfl (to_2l (pc := 20) rw_25_20 (v := ((y3 <<< ((1 : Int32).toInt64 &&& 63)) ||| ((x >>> (x5.toInt64 &&& 63)) &&& (1 : Int64)))) rfl (to_lsn (pc := 21) rw_25_21 (ls2 := [.long x, .null, .int y, .long ((y3 <<< ((1 : Int32).toInt64 &&& 63)) ||| ((x >>> (x5.toInt64 &&& 63)) &&& (1 : Int64))), .null, .int x5]) rfl rfl (s_inc (pc := 22) rw_25_22 (ls2 := fun v => [.long x, .null, .int y, .long ((y3 <<< ((1 : Int32).toInt64 &&& 63)) ||| ((x >>> (x5.toInt64 &&& 63)) &&& (1 : Int64))), .null, .int v]) rfl rfl (fun _ => rfl) (A := x5.toInt) (B := 1) rfl rfl (by omega) (fun v3 e4 => to_go (pc := 25) rw_25_25 ?_))))))))
      exact ih N ((y3 <<< ((1 : Int32).toInt64 &&& 63)) ||| ((x >>> (x5.toInt64 &&& 63)) &&& (1 : Int64))) v3 hG F0 (by omega) (by omega) (by omega) (x_mi_s g4 (by omega) (by omega) rfl (by omega) rfl) (by omega)
set_option maxRecDepth 4000 in
set_option maxHeartbeats 0 in
theorem E_25 {X : mm_X} {d : Nat} {M : mm_M} {Q : Option Value → mm_M → Prop} {x : Int64} {y : Int32} (hX : g_X X) (hd : 0 ≤ d) (hG : g_G M) (q1 : 0 ≤ y.toInt) (q2 : y.toInt ≤ 60) (h : ∀ (r : Int64) (M1 : mm_M), g_G M1 → FR md_0 M M1 → (x_mi x y.toInt r) → Q (some (.long r)) M1) : mm_T X d 25 0 [.long x, .null, .int y, .null, .null, .null] [] M Q := by
  have F0 : FR md_0 M M := FR.rf
  refine to_cl (pc := 0) rw_25_0 rfl (x := (0 : Int64)) rfl (to_lsn (pc := 1) rw_25_1 (ls2 := [.long x, .null, .int y, .long (0 : Int64), .null, .null]) rfl rfl (to_c (pc := 2) rw_25_2 (x := (0 : Int32)) rfl rfl (to_is (pc := 3) rw_25_3 (ls2 := [.long x, .null, .int y, .long (0 : Int64), .null, .int (0 : Int32)]) rfl rfl ?_)))
  have k_5 : (0 : Int32).toInt = 0 := rfl
  exact (U_25_0 (x := x) (y := y) hX hd q1 q2 h ((60 - (0 : Int32).toInt).toNat + 1)) M (0 : Int64) (0 : Int32) hG F0 (by omega) (by omega) (by omega) (x_mi_0 (by omega)) (by omega)
set_option maxRecDepth 4000 in
set_option maxHeartbeats 0 in
theorem U_24_0 {X : mm_X} {d : Nat} {M : mm_M} {Q : Option Value → mm_M → Prop} {y : Int32} {sg : x_S} {ca : Int} {K : x_Kn} (hX : g_X X) (hd : 1 ≤ d) (q1 : 0 ≤ y.toInt) (q2 : y.toInt ≤ 60) (q3 : KST M 12 13 14 15 ca sg K) (h : ∀ (M1 : mm_M), g_G M1 → FR md_p27 M M1 → (PLC M1 K (M1.2.1 17 4) y.toInt ca 30) → Q (none) M1) : ∀ nn9 : Nat, (∀ (N : mm_M) (x3 : Int32) (u4 : Value), g_G N → FR md_p27 M N → (0 ≤ x3.toInt) → (x3.toInt ≤ 30) → (KST N 12 13 14 15 ca sg K) → (PLC N K (N.2.1 17 4) y.toInt ca x3.toInt) → 30 - x3.toInt < (nn9 : Int) → mm_T X d 24 2 [.ref 17, .ref 11, .int y, .int x3, u4] [] N Q) := by
  intro nn9
  induction nn9 with
  | zero =>
    intro N x3 u4 hG F0 g1 g2 g3 g4 hm
    exfalso; omega
  | succ nn9 ih =>
    intro N x3 u4 hG F0 g1 g2 g3 g4 hm
    refine to_in (pc := 2) rw_24_2 rfl (to_c (pc := 3) rw_24_3 (x := (30 : Int32)) rfl rfl (b_cge (pc := 5) rw_24_5 (A := x3.toInt) (B := 30) rfl rfl (fun h1 => ?_) (fun h1 => ?_)))
    · refine to_rv (pc := 62) rw_24_62 ?_
      exact h N hG F0 (PLC_e (by omega) g4)
    · refine to_an (pc := 8) rw_24_8 rfl (tt_gI (pc := 9) rw_24_9 (g_o hG rfl) (v := (N.2.1 17 4)) rfl (to_in (pc := 12) rw_24_12 rfl (s_opE (pc := 13) rw_24_13 (w := (N.2.1 17 4) >>> x3) rfl (fun v2 e3 => to_c (pc := 14) rw_24_14 (x := (1 : Int32)) rfl rfl (s_and (pc := 15) rw_24_15 (B := 1) rfl (by omega) (fun v4 e5 _ _ => b_ieq (pc := 16) rw_24_16 (A := v4.toInt) rfl (fun h6 => ?_) (fun h6 => ?_)))))))
      · refine to_c (pc := 23) rw_24_23 (x := (0 : Int32)) rfl rfl (to_is (pc := 24) rw_24_24 (ls2 := [.ref 17, .ref 11, .int y, .int x3, .int (0 : Int32)]) rfl rfl (to_an (pc := 26) rw_24_26 rfl (s_gR (pc := 27) rw_24_27 hG rfl (v := 27) rfl (to_in (pc := 30) rw_24_30 rfl (to_i (pc := 31) rw_24_31 rfl (b_ieq_t (pc := 33) rw_24_33 (A := 0) rfl (by decide) (to_an (pc := 49) rw_24_49 rfl (s_gR (pc := 50) rw_24_50 hG rfl (v := 12) rfl (to_in (pc := 53) rw_24_53 rfl (s_lalE (pc := 54) rw_24_54 hG rfl (n := 30) rfl (A := x3.toInt) rfl (by omega) (by omega) (fun l7 w_8 => s_las (pc := 55) rw_24_55 hG rfl (n := 30) rfl (A := x3.toInt) rfl (by omega) (by omega) (fun M10 W9 => ?_))))))))))))
        have hG11 := g_wl hG W9
        have F12 := FR.wl F0 W9 (show 27 = 27 by decide)
        refine s_inc (pc := 56) rw_24_56 (ls2 := fun v => [.ref 17, .ref 11, .int y, .int v, .int (0 : Int32)]) rfl rfl (fun _ => rfl) (A := x3.toInt) (B := 1) rfl rfl (by omega) (fun v13 e14 => to_go (pc := 59) rw_24_59 ?_)
        have kn_15 : KST M10 12 13 14 15 ca sg K := KST_f (fun i => (L_n W9 (by omega) rfl)) (fun i => (W_l W9 rfl)) (fun i => (W_l W9 rfl)) (fun i => (L_n W9 (by omega) rfl)) g3
        have c_16 : M10.2.1 17 4 = (N.2.1 17 4) := (W_l W9 rfl)
        exact ih M10 v13 (.int (0 : Int32)) hG11 F12 (by omega) (by omega) kn_15 (PLC_o c_16 (PLC_n g4 W9 (by omega) rfl (by omega) (fun g9 => KST_lc (K := K) g3 (by omega) g9 w_8) (x_ov_n e3 e5 rfl (by omega)))) (by omega)
      · refine to_c (pc := 19) rw_24_19 (x := (1 : Int32)) rfl rfl (to_go (pc := 20) rw_24_20 (to_is (pc := 24) rw_24_24 (ls2 := [.ref 17, .ref 11, .int y, .int x3, .int (1 : Int32)]) rfl rfl (to_an (pc := 26) rw_24_26 rfl (s_gR (pc := 27) rw_24_27 hG rfl (v := 27) rfl (to_in (pc := 30) rw_24_30 rfl (to_i (pc := 31) rw_24_31 rfl (b_ieq_f (pc := 33) rw_24_33 (A := 1) rfl (by decide) (to_an (pc := 36) rw_24_36 rfl (s_gR (pc := 37) rw_24_37 hG rfl (v := 12) rfl (to_in (pc := 40) rw_24_40 rfl (s_lalE (pc := 41) rw_24_41 hG rfl (n := 30) rfl (A := x3.toInt) rfl (by omega) (by omega) (fun l17 w_18 => ?_))))))))))))
        refine to_in (pc := 42) rw_24_42 rfl (s_s (pc := 43) rw_24_43 (dp0 hd (by decide)) (ls0 := [.long l17, .null, .int y, .null, .null, .null]) rfl (Nat.le_of_ble_eq_true rfl) (Nat.le_of_ble_eq_true rfl) rfl (to_rcs rfl rfl) rfl (E_25 hX (dp1 hd (by decide)) hG (by omega) (by omega) (x := l17) (y := y) (fun r19 M23 hG21 F20 p_22 => ?_)))
        have F24 := FR.c F0 F20 tg_139
        refine to_go (pc := 46) rw_24_46 (s_las (pc := 55) rw_24_55 hG21 rfl (n := 30) rfl (A := x3.toInt) rfl (by omega) (by omega) (fun M26 W25 => ?_))
        have hG27 := g_wl hG21 W25
        have F28 := FR.wl F24 W25 (show 27 = 27 by decide)
        refine s_inc (pc := 56) rw_24_56 (ls2 := fun v => [.ref 17, .ref 11, .int y, .int v, .int (1 : Int32)]) rfl rfl (fun _ => rfl) (A := x3.toInt) (B := 1) rfl rfl (by omega) (fun v29 e30 => to_go (pc := 59) rw_24_59 ?_)
        have kn_31 : KST M26 12 13 14 15 ca sg K := KST_f (fun i => (L_n W25 (by omega) (F_nl F20 (show ¬ (12 < 0) by decide) rfl))) (fun i => (W_l W25 (F_n F20 (show ¬ (13 < 0) by decide) rfl))) (fun i => (W_l W25 (F_n F20 (show ¬ (14 < 0) by decide) rfl))) (fun i => (L_n W25 (by omega) (F_nl F20 (show ¬ (15 < 0) by decide) rfl))) g3
        have c_32 : M26.2.1 17 4 = (N.2.1 17 4) := (W_l W25 (F_n F20 (show ¬ (17 < 0) by decide) rfl))
        exact ih M26 v29 (.int (1 : Int32)) hG27 F28 (by omega) (by omega) kn_31 (PLC_o c_32 (PLC_y (PLC_f (fun i => (F_nl F20 (show ¬ (27 < 0) by decide) rfl)) g4) W25 (by omega) rfl (by omega) (fun g9 => KST_lc (K := K) g3 (by omega) g9 w_18) p_22 (x_ov_y e3 e5 rfl (by omega)))) (by omega)
set_option maxRecDepth 4000 in
set_option maxHeartbeats 0 in
theorem E_24 {X : mm_X} {d : Nat} {M : mm_M} {Q : Option Value → mm_M → Prop} {y : Int32} {sg : x_S} {ca : Int} {K : x_Kn} (hX : g_X X) (hd : 1 ≤ d) (hG : g_G M) (q1 : 0 ≤ y.toInt) (q2 : y.toInt ≤ 60) (q3 : KST M 12 13 14 15 ca sg K) (h : ∀ (M1 : mm_M), g_G M1 → FR md_p27 M M1 → (PLC M1 K (M1.2.1 17 4) y.toInt ca 30) → Q (none) M1) : mm_T X d 24 0 [.ref 17, .ref 11, .int y, .null, .null] [] M Q := by
  have F0 : FR md_p27 M M := FR.rf
  refine to_c (pc := 0) rw_24_0 (x := (0 : Int32)) rfl rfl (to_isn (pc := 1) rw_24_1 (ls2 := [.ref 17, .ref 11, .int y, .int (0 : Int32), .null]) rfl rfl ?_)
  have k_33 : (0 : Int32).toInt = 0 := rfl
  exact (U_24_0 (y := y) (sg := sg) (ca := ca) (K := K) hX hd q1 q2 q3 h ((30 - (0 : Int32).toInt).toNat + 1)) M (0 : Int32) (.null) hG F0 (by omega) (by omega) q3 (PLC_0 (by omega)) (by omega)
set_option maxRecDepth 4000 in
set_option maxHeartbeats 0 in
theorem E_23 {X : mm_X} {d : Nat} {M : mm_M} {Q : Option Value → mm_M → Prop} {p : Int32} {c : Int32} {P9 : x_P} (hX : g_X X) (hd : 0 ≤ d) (hG : g_G M) (q1 : 0 ≤ p.toInt) (q2 : p.toInt ≤ 5) (q3 : 0 ≤ c.toInt) (q4 : c.toInt ≤ 29) (q5 : PKc M P9) (q6 : 0 ≤ P9.2 p.toInt ∧ P9.2 p.toInt < 30) (h : ∀ (M1 : mm_M), g_G M1 → FR md_p8 M M1 → (PKc M1 (x_ap9 P9 p.toInt c.toInt)) → Q (none) M1) : mm_T X d 23 0 [.ref 17, .int p, .int c] [] M Q := by
  have F0 : FR md_p8 M M := FR.rf
  refine to_an (pc := 0) rw_23_0 rfl (s_gR (pc := 1) rw_23_1 hG rfl (v := 25) rfl (to_in (pc := 4) rw_23_4 rfl (s_ial (pc := 5) rw_23_5 hG rfl (n := 6) rfl rfl (A := p.toInt) rfl (by omega) (by omega) (lo := 0) (hi := 30) rfl rfl (fun v1 w_2 _ _ => ?_))))
  have z_3 := PKc_u (p := p.toInt) q5 (by omega) (by omega) w_2
  refine to_c (pc := 6) rw_23_6 (x := (30 : Int32)) rfl rfl (b_cge (pc := 8) rw_23_8 (A := v1.toInt) (B := 30) rfl rfl (fun h4 => ?_) (fun h4 => ?_))
  · refine to_rv (pc := 35) rw_23_35 ?_
    exact h M hG F0 (by exfalso; omega)
  · refine to_an (pc := 11) rw_23_11 rfl (s_gR (pc := 12) rw_23_12 hG rfl (v := 18) rfl (to_in (pc := 15) rw_23_15 rfl (s_aalE (pc := 16) rw_23_16 hG (A := p.toInt) rfl (by omega) (by omega) (fun r5 e6 => ?_))))
    have hr5 : 19 ≤ r5 ∧ r5 ≤ 24 := by omega
    refine to_an (pc := 17) rw_23_17 rfl (s_gR (pc := 18) rw_23_18 hG rfl (v := 25) rfl (to_in (pc := 21) rw_23_21 rfl (s_ialk (pc := 22) rw_23_22 hG rfl (n := 6) rfl rfl (A := p.toInt) rfl (by omega) (by omega) (v := v1) w_2 (to_in (pc := 23) rw_23_23 rfl (s_ias (pc := 24) rw_23_24 hG (by rcases rr_6 hr5 with z | z | z | z | z | z <;> rw [z] <;> rfl) (n := 30) (by rcases rr_6 hr5 with z | z | z | z | z | z <;> rw [z] <;> rfl) (A := v1.toInt) rfl (by omega) (by omega) (fun M10 W9 => ?_))))))
    have hG11 := g_w hG W9 (A := c.toInt) rfl (lo := 0) (hi := 29) (by rcases rr_6 hr5 with z | z | z | z | z | z <;> rw [z] <;> rfl) (by rcases rr_6 hr5 with z | z | z | z | z | z <;> rw [z] <;> rfl) (by omega) (by omega)
    have F12 := FR.w F0 W9 (show 19 ≤ r5 ∧ r5 ≤ 25 by omega)
    refine to_an (pc := 25) rw_23_25 rfl (s_gR (pc := 26) rw_23_26 hG11 rfl (v := 25) rfl (to_in (pc := 29) rw_23_29 rfl (to_dup2 (pc := 30) rw_23_30 (s_ialk (pc := 31) rw_23_31 hG11 rfl (n := 6) rfl rfl (A := p.toInt) rfl (by omega) (by omega) (v := v1) (W_n W9 (by omega) w_2) (to_c (pc := 32) rw_23_32 (x := (1 : Int32)) rfl rfl (s_add (pc := 33) rw_23_33 (A := v1.toInt) (B := 1) rfl rfl (by omega) (fun v15 e16 => s_ias (pc := 34) rw_23_34 hG11 rfl (n := 6) rfl (A := p.toInt) rfl (by omega) (by omega) (fun M18 W17 => ?_))))))))
    have hG19 := g_w hG11 W17 (A := v15.toInt) rfl (lo := 0) (hi := 30) rfl rfl (by omega) (by decide)
    have F20 := FR.w F12 W17 (show 19 ≤ 25 ∧ 25 ≤ 25 by decide)
    refine to_rv (pc := 35) rw_23_35 ?_
    exact h M18 hG19 F20 (PKc_a q5 (by omega) (by omega) (by omega) e6 W9 W17 (by omega) rfl rfl (by omega))
set_option maxRecDepth 4000 in
set_option maxHeartbeats 0 in
theorem U_28_0 {X : mm_X} {d : Nat} {M : mm_M} {Q : Option Value → mm_M → Prop} {f : Int32} {a : Int32} {b : Int32} {x : Int64} {P9 : x_P} {K : x_Kn} {ca : Int} {ov : Int32} {ho : Int} {n9 : Int} (hX : g_X X) (hd : 1 ≤ d) (q1 : 0 ≤ f.toInt) (q2 : f.toInt ≤ 5) (q3 : 0 ≤ a.toInt) (q4 : a.toInt ≤ 5) (q5 : 0 ≤ b.toInt) (q6 : b.toInt ≤ 5) (q7 : 0 ≤ ho) (q8 : ho ≤ 60) (q9 : ca ≤ 30) (q10 : n9 ≤ 30) (q11 : PKc M P9) (q12 : x_pg P9 n9 ca) (q13 : PLC M K ov ho ca 30) (q14 : ∀ i : Nat, x_on x i = true → (i : Int) < ho) (h : ∀ (M1 : mm_M), g_G M1 → FR md_p6 M M1 → (PKc M1 (x_dl P9 f.toInt a.toInt b.toInt (x_dt K ov ho x))) → Q (none) M1) : ∀ nn9 : Nat, (∀ (N : mm_M) (u1 : Value) (x6 : Int32) (x7 : Int32), g_G N → FR md_p6 M N → (0 ≤ x7.toInt) → (x7.toInt ≤ 30) → (0 ≤ x6.toInt) → (x6.toInt ≤ 30) → (x6.toInt = P9.2 f.toInt) → (x7.toInt ≤ x6.toInt) → (PLC N K ov ho ca 30) → (∀ k : Nat, (k : Int) < x6.toInt → (N.2.1 26 k).toInt = P9.1 f.toInt k) → (∃ P : x_P, PKc N P ∧ x_pg P (n9 - x6.toInt + x7.toInt) ca ∧ x_dlk (P9.1 f.toInt) (x_dt K ov ho x) a.toInt b.toInt (x6.toInt - x7.toInt).toNat (x7.toInt).toNat P = (x_dl P9 f.toInt a.toInt b.toInt (x_dt K ov ho x))) → 30 - x7.toInt < (nn9 : Int) → mm_T X d 28 50 [.ref 17, u1, .int a, .int b, .long x, .null, .int x6, .int x7] [] N Q) := by
  intro nn9
  induction nn9 with
  | zero =>
    intro N u1 x6 x7 hG F0 g1 g2 g3 g4 g5 g6 g7 g8 g9 hm
    exfalso; omega
  | succ nn9 ih =>
    intro N u1 x6 x7 hG F0 g1 g2 g3 g4 g5 g6 g7 g8 g9 hm
    have z_1 := x_pg_le (p := f.toInt) q12 (by omega) (by omega)
    obtain ⟨Pk, pk1, pk2, pk3⟩ := id g9
    have z_2 := x_pg_le (p := a.toInt) pk2 (by omega) (by omega)
    have z_3 := x_pg_le (p := b.toInt) pk2 (by omega) (by omega)
    refine to_i (pc := 50) rw_28_50 rfl (to_i (pc := 52) rw_28_52 rfl (b_cge (pc := 54) rw_28_54 (A := x7.toInt) (B := x6.toInt) rfl rfl (fun h4 => ?_) (fun h4 => ?_)))
    · refine to_rv (pc := 95) rw_28_95 ?_
      exact h N hG F0 (by obtain ⟨Pk, pk1, pk2, pk3⟩ := g9; rw [← x_dlk_x (by omega) pk3]; exact pk1)
    · refine to_an (pc := 57) rw_28_57 rfl (to_an (pc := 58) rw_28_58 rfl (to_an (pc := 59) rw_28_59 rfl (s_gR (pc := 60) rw_28_60 hG rfl (v := 26) rfl (to_i (pc := 63) rw_28_63 rfl (s_ial (pc := 65) rw_28_65 hG rfl (n := 30) rfl rfl (A := x7.toInt) rfl (by omega) (by omega) (lo := 0) (hi := 29) rfl rfl (fun v5 w_6 _ _ => ?_))))))
      have z_7 := (congrArg Int32.toInt w_6).symm.trans (g8 (x7.toInt).toNat (by omega))
      have z_8 := (q12.2 f.toInt (by omega) (by omega)).2 (x7.toInt).toNat (by omega)
      refine to_l (pc := 66) rw_28_66 rfl rfl rfl (s_v (pc := 68) rw_28_68 (dp0 hd (by decide)) (ls0 := [.ref 17, .int v5, .long x, .null]) rfl (Nat.le_of_ble_eq_true rfl) (Nat.le_of_ble_eq_true rfl) rfl (to_rc rfl rfl rfl (g_o hG rfl)) rfl (to_an (pc := 0) rw_26_0 rfl (s_gR (pc := 1) rw_26_1 hG rfl (v := 27) rfl (to_in (pc := 4) rw_26_4 rfl (s_lalE (pc := 5) rw_26_5 hG rfl (n := 30) rfl (A := v5.toInt) rfl (by omega) (by omega) (fun l9 w_10 => ?_))))))
      have z_11 := PLC_t (nd := x) (c := v5.toInt) g7 (by omega) (by omega) (by omega) (by omega) (by omega) q14 w_10
      refine to_ln (pc := 6) rw_26_6 rfl rfl rfl (to_2l (pc := 7) rw_26_7 (v := (l9 &&& x)) rfl (to_ln (pc := 8) rw_26_8 rfl rfl rfl (s_lcmpE (pc := 9) rw_26_9 (fun v12 e13 => ?_))))
      have b_14 := x_eq_b (x := (l9 &&& x)) (y := x)
      refine b_ine (pc := 10) rw_26_10 (A := v12.toInt) rfl (fun h15 => ?_) (fun h15 => ?_)
      · refine to_c (pc := 17) rw_26_17 (x := (0 : Int32)) rfl rfl (s_r1 (pc := 18) rw_26_18 (A := 0) rfl (by decide) (b_ieq_t (pc := 71) rw_28_71 (A := 0) rfl (by decide) (to_in (pc := 78) rw_28_78 rfl (to_an (pc := 79) rw_28_79 rfl (s_gR (pc := 80) rw_28_80 hG rfl (v := 26) rfl (to_i (pc := 83) rw_28_83 rfl (s_ialk (pc := 85) rw_28_85 hG rfl (n := 30) rfl rfl (A := x7.toInt) rfl (by omega) (by omega) (v := v5) w_6 (s_v (pc := 86) rw_28_86 (dp0 hd (by decide)) (ls0 := [.ref 17, .int b, .int v5]) rfl (Nat.le_of_ble_eq_true rfl) (Nat.le_of_ble_eq_true rfl) rfl (to_rc rfl rfl rfl (g_o hG rfl)) rfl (E_23 hX (dp1 hd (by decide)) hG (by omega) (by omega) (by omega) (by omega) pk1 (by omega) (p := b) (c := v5) (P9 := Pk) (fun M21 hG19 F18 p_20 => ?_))))))))))
        have F22 := FR.c F0 F18 tg_140
        refine s_inc (pc := 89) rw_28_89 (ls2 := fun v => [.ref 17, u1, .int a, .int b, .long x, .null, .int x6, .int v]) rfl rfl (fun _ => rfl) (A := x7.toInt) (B := 1) rfl rfl (by omega) (fun v23 e24 => to_go (pc := 92) rw_28_92 ?_)
        exact ih M21 (u1) x6 v23 hG19 F22 (by omega) (by omega) (by omega) (by omega) (by omega) (by omega) (PLC_f (fun i => (F_nl F18 (show ¬ (19 ≤ 27 ∧ 27 ≤ 25) by decide) rfl)) g7) (fun k hk => by rw [show M21.2.1 26 k = N.2.1 26 k from (F_n F18 (show ¬ (19 ≤ 26 ∧ 26 ≤ 25) by decide) rfl)]; exact g8 k (by omega)) ⟨_, p_20, x_pg_a pk2 (by omega) (by omega) (by omega) (by omega) (by omega), x_dlk_s (by omega) (by omega) (by omega) pk3 (x_dlk_l z_7 (by rw [← z_7]; exact (fun y => by have := z_11.mpr y; omega)) rfl)⟩ (by omega)
      · refine to_c (pc := 13) rw_26_13 (x := (1 : Int32)) rfl rfl (to_go (pc := 14) rw_26_14 (s_r1 (pc := 18) rw_26_18 (A := 1) rfl (by decide) (b_ieq_f (pc := 71) rw_28_71 (A := 1) rfl (by decide) (to_in (pc := 74) rw_28_74 rfl (to_go (pc := 75) rw_28_75 (to_an (pc := 79) rw_28_79 rfl (s_gR (pc := 80) rw_28_80 hG rfl (v := 26) rfl (to_i (pc := 83) rw_28_83 rfl (s_ialk (pc := 85) rw_28_85 hG rfl (n := 30) rfl rfl (A := x7.toInt) rfl (by omega) (by omega) (v := v5) w_6 (s_v (pc := 86) rw_28_86 (dp0 hd (by decide)) (ls0 := [.ref 17, .int a, .int v5]) rfl (Nat.le_of_ble_eq_true rfl) (Nat.le_of_ble_eq_true rfl) rfl (to_rc rfl rfl rfl (g_o hG rfl)) rfl (E_23 hX (dp1 hd (by decide)) hG (by omega) (by omega) (by omega) (by omega) pk1 (by omega) (p := a) (c := v5) (P9 := Pk) (fun M30 hG28 F27 p_29 => ?_))))))))))))
        have F31 := FR.c F0 F27 tg_140
        refine s_inc (pc := 89) rw_28_89 (ls2 := fun v => [.ref 17, u1, .int a, .int b, .long x, .null, .int x6, .int v]) rfl rfl (fun _ => rfl) (A := x7.toInt) (B := 1) rfl rfl (by omega) (fun v32 e33 => to_go (pc := 92) rw_28_92 ?_)
        exact ih M30 (u1) x6 v32 hG28 F31 (by omega) (by omega) (by omega) (by omega) (by omega) (by omega) (PLC_f (fun i => (F_nl F27 (show ¬ (19 ≤ 27 ∧ 27 ≤ 25) by decide) rfl)) g7) (fun k hk => by rw [show M30.2.1 26 k = N.2.1 26 k from (F_n F27 (show ¬ (19 ≤ 26 ∧ 26 ≤ 25) by decide) rfl)]; exact g8 k (by omega)) ⟨_, p_29, x_pg_a pk2 (by omega) (by omega) (by omega) (by omega) (by omega), x_dlk_s (by omega) (by omega) (by omega) pk3 (x_dlk_d z_7 (by rw [← z_7]; exact z_11.mp (by omega)) rfl)⟩ (by omega)
set_option maxRecDepth 4000 in
set_option maxHeartbeats 0 in
theorem U_28_1 {X : mm_X} {d : Nat} {M : mm_M} {Q : Option Value → mm_M → Prop} {f : Int32} {a : Int32} {b : Int32} {x : Int64} {P9 : x_P} {K : x_Kn} {ca : Int} {ov : Int32} {ho : Int} {n9 : Int} (hX : g_X X) (hd : 1 ≤ d) (q1 : 0 ≤ f.toInt) (q2 : f.toInt ≤ 5) (q3 : 0 ≤ a.toInt) (q4 : a.toInt ≤ 5) (q5 : 0 ≤ b.toInt) (q6 : b.toInt ≤ 5) (q7 : 0 ≤ ho) (q8 : ho ≤ 60) (q9 : ca ≤ 30) (q10 : n9 ≤ 30) (q11 : PKc M P9) (q12 : x_pg P9 n9 ca) (q13 : PLC M K ov ho ca 30) (q14 : ∀ i : Nat, x_on x i = true → (i : Int) < ho) (h : ∀ (M1 : mm_M), g_G M1 → FR md_p6 M M1 → (PKc M1 (x_dl P9 f.toInt a.toInt b.toInt (x_dt K ov ho x))) → Q (none) M1) : ∀ nn9 : Nat, (∀ (N : mm_M) (x6 : Int32) (x7 : Int32), g_G N → FR md_p6 M N → (0 ≤ x7.toInt) → (x7.toInt ≤ 30) → (0 ≤ x6.toInt) → (x6.toInt ≤ 30) → (x6.toInt = P9.2 f.toInt) → (x7.toInt ≤ x6.toInt) → (PKc N P9) → (PLC N K ov ho ca 30) → (∀ k : Nat, (k : Int) < x7.toInt → (N.2.1 26 k).toInt = P9.1 f.toInt k) → 30 - x7.toInt < (nn9 : Int) → mm_T X d 28 11 [.ref 17, .int f, .int a, .int b, .long x, .null, .int x6, .int x7] [] N Q) := by
  intro nn9
  induction nn9 with
  | zero =>
    intro N x6 x7 hG F0 g1 g2 g3 g4 g5 g6 g7 g8 g9 hm
    exfalso; omega
  | succ nn9 ih =>
    intro N x6 x7 hG F0 g1 g2 g3 g4 g5 g6 g7 g8 g9 hm
    have z_34 := x_pg_le (p := f.toInt) q12 (by omega) (by omega)
    refine to_i (pc := 11) rw_28_11 rfl (to_i (pc := 13) rw_28_13 rfl (b_cge (pc := 15) rw_28_15 (A := x7.toInt) (B := x6.toInt) rfl rfl (fun h35 => ?_) (fun h35 => ?_)))
    · refine to_an (pc := 40) rw_28_40 rfl (s_gR (pc := 41) rw_28_41 hG rfl (v := 25) rfl (to_in (pc := 44) rw_28_44 rfl (to_c (pc := 45) rw_28_45 (x := (0 : Int32)) rfl rfl (s_ias (pc := 46) rw_28_46 hG rfl (n := 6) rfl (A := f.toInt) rfl (by omega) (by omega) (fun M37 W36 => ?_)))))
      have hG38 := g_w hG W36 (A := 0) rfl (lo := 0) (hi := 30) rfl rfl (by omega) (by decide)
      have F39 := FR.w F0 W36 (show 19 ≤ 25 ∧ 25 ≤ 26 by decide)
      refine to_c (pc := 47) rw_28_47 (x := (0 : Int32)) rfl rfl (to_is (pc := 48) rw_28_48 (ls2 := [.ref 17, .int f, .int a, .int b, .long x, .null, .int x6, .int (0 : Int32)]) rfl rfl ?_)
      have k_40 : (0 : Int32).toInt = 0 := rfl
      exact (U_28_0 (f := f) (a := a) (b := b) (x := x) (P9 := P9) (K := K) (ca := ca) (ov := ov) (ho := ho) (n9 := n9) hX hd q1 q2 q3 q4 q5 q6 q7 q8 q9 q10 q11 q12 q13 q14 h ((30 - (0 : Int32).toInt).toNat + 1)) M37 (.int f) x6 (0 : Int32) hG38 F39 (by omega) (by omega) (by omega) (by omega) (by omega) (by omega) (PLC_f (fun i => (W_j W36 rfl)) g8) (fun k hk => by rw [show M37.2.1 26 k = N.2.1 26 k from (W_n W36 (by omega) rfl)]; exact g9 k (by omega)) ⟨x_z9 P9 f.toInt, PKc_z g7 (by omega) (by omega) W36 rfl rfl, x_pg_z q12 (by omega) (by omega) (by omega), by rw [x_dlk_0 (by omega), show x6.toInt = P9.2 f.toInt by omega]; rfl⟩ (by omega)
    · refine to_an (pc := 18) rw_28_18 rfl (s_gR (pc := 19) rw_28_19 hG rfl (v := 26) rfl (to_i (pc := 22) rw_28_22 rfl (to_an (pc := 24) rw_28_24 rfl (s_gR (pc := 25) rw_28_25 hG rfl (v := 18) rfl (to_in (pc := 28) rw_28_28 rfl (s_aalE (pc := 29) rw_28_29 hG (A := f.toInt) rfl (by omega) (by omega) (fun r41 e42 => ?_)))))))
      have hr41 : 19 ≤ r41 ∧ r41 ≤ 24 := by omega
      refine to_i (pc := 30) rw_28_30 rfl (s_ial (pc := 32) rw_28_32 hG (by rcases rr_6 hr41 with z | z | z | z | z | z <;> rw [z] <;> rfl) (n := 30) (by rcases rr_6 hr41 with z | z | z | z | z | z <;> rw [z] <;> rfl) (by rcases rr_6 hr41 with z | z | z | z | z | z <;> rw [z] <;> rfl) (A := x7.toInt) rfl (by omega) (by omega) (lo := 0) (hi := 29) (by rcases rr_6 hr41 with z | z | z | z | z | z <;> rw [z] <;> rfl) (by rcases rr_6 hr41 with z | z | z | z | z | z <;> rw [z] <;> rfl) (fun v43 w_44 _ _ => ?_))
      have z_45 := PKc_r (p := f.toInt) (k := x7.toInt) g7 (by omega) (by omega) e42 (by omega) (by omega) w_44
      refine s_ias (pc := 33) rw_28_33 hG rfl (n := 30) rfl (A := x7.toInt) rfl (by omega) (by omega) (fun M47 W46 => ?_)
      have hG48 := g_w hG W46 (A := v43.toInt) rfl (lo := 0) (hi := 29) rfl rfl (by omega) (by decide)
      have F49 := FR.w F0 W46 (show 19 ≤ 26 ∧ 26 ≤ 26 by decide)
      refine s_inc (pc := 34) rw_28_34 (ls2 := fun v => [.ref 17, .int f, .int a, .int b, .long x, .null, .int x6, .int v]) rfl rfl (fun _ => rfl) (A := x7.toInt) (B := 1) rfl rfl (by omega) (fun v50 e51 => to_go (pc := 37) rw_28_37 ?_)
      have j_52 := (PKc_f (fun a i z => W_n W46 (by /-r26-/ omega) rfl) g7)
      exact ih M47 x6 v50 hG48 F49 (by omega) (by omega) (by omega) (by omega) (by omega) (by omega) j_52 (PLC_f (fun i => (W_j W46 rfl)) g8) (fun k hk => by
          by_cases gk9 : (k : Int) < x7.toInt
          · rw [show M47.2.1 26 k = N.2.1 26 k from W_n W46 (by omega) rfl]; exact g9 k gk9
          · rw [show k = (x7.toInt).toNat by omega, W_e W46]; exact z_45) (by omega)
set_option maxRecDepth 4000 in
set_option maxHeartbeats 0 in
theorem E_28 {X : mm_X} {d : Nat} {M : mm_M} {Q : Option Value → mm_M → Prop} {f : Int32} {a : Int32} {b : Int32} {x : Int64} {P9 : x_P} {K : x_Kn} {ca : Int} {ov : Int32} {ho : Int} {n9 : Int} (hX : g_X X) (hd : 1 ≤ d) (hG : g_G M) (q1 : 0 ≤ f.toInt) (q2 : f.toInt ≤ 5) (q3 : 0 ≤ a.toInt) (q4 : a.toInt ≤ 5) (q5 : 0 ≤ b.toInt) (q6 : b.toInt ≤ 5) (q7 : 0 ≤ ho) (q8 : ho ≤ 60) (q9 : ca ≤ 30) (q10 : n9 ≤ 30) (q11 : PKc M P9) (q12 : x_pg P9 n9 ca) (q13 : PLC M K ov ho ca 30) (q14 : ∀ i : Nat, x_on x i = true → (i : Int) < ho) (h : ∀ (M1 : mm_M), g_G M1 → FR md_p6 M M1 → (PKc M1 (x_dl P9 f.toInt a.toInt b.toInt (x_dt K ov ho x))) → Q (none) M1) : mm_T X d 28 0 [.ref 17, .int f, .int a, .int b, .long x, .null, .null, .null] [] M Q := by
  have F0 : FR md_p6 M M := FR.rf
  have z_53 := x_pg_le (p := f.toInt) q12 (by omega) (by omega)
  refine to_an (pc := 0) rw_28_0 rfl (s_gR (pc := 1) rw_28_1 hG rfl (v := 25) rfl (to_in (pc := 4) rw_28_4 rfl (s_ial (pc := 5) rw_28_5 hG rfl (n := 6) rfl rfl (A := f.toInt) rfl (by omega) (by omega) (lo := 0) (hi := 30) rfl rfl (fun v54 w_55 _ _ => ?_))))
  have z_56 := PKc_u (p := f.toInt) q11 (by omega) (by omega) w_55
  refine to_is (pc := 6) rw_28_6 (ls2 := [.ref 17, .int f, .int a, .int b, .long x, .null, .int v54, .null]) rfl rfl (to_c (pc := 8) rw_28_8 (x := (0 : Int32)) rfl rfl (to_is (pc := 9) rw_28_9 (ls2 := [.ref 17, .int f, .int a, .int b, .long x, .null, .int v54, .int (0 : Int32)]) rfl rfl ?_))
  have k_57 : (0 : Int32).toInt = 0 := rfl
  exact (U_28_1 (f := f) (a := a) (b := b) (x := x) (P9 := P9) (K := K) (ca := ca) (ov := ov) (ho := ho) (n9 := n9) hX hd q1 q2 q3 q4 q5 q6 q7 q8 q9 q10 q11 q12 q13 q14 h ((30 - (0 : Int32).toInt).toNat + 1)) M v54 (0 : Int32) hG F0 (by omega) (by omega) (by omega) (by omega) (by omega) (by omega) q11 q13 (fun k hk => by exfalso; omega) (by omega)
set_option maxRecDepth 4000 in
set_option maxHeartbeats 0 in
theorem U_27_0 {X : mm_X} {d : Nat} {M : mm_M} {Q : Option Value → mm_M → Prop} {p : Int32} {x : Int64} {P9 : x_P} {K : x_Kn} {ca : Int} {ov : Int32} {ho : Int} {n9 : Int} (hX : g_X X) (hd : 1 ≤ d) (q1 : 0 ≤ p.toInt) (q2 : p.toInt ≤ 5) (q3 : 0 ≤ ho) (q4 : ho ≤ 60) (q5 : ca ≤ 30) (q6 : n9 ≤ 30) (q7 : PKc M P9) (q8 : x_pg P9 n9 ca) (q9 : PLC M K ov ho ca 30) (q10 : ∀ i : Nat, x_on x i = true → (i : Int) < ho) (h : ∀ (r : Int32) (M1 : mm_M), g_G M1 → FR md_0 M M1 → (r = x_dpl (P9.1 p.toInt) (x_dt K ov ho x) (P9.2 p.toInt).toNat 0 0) → Q (some (.int r)) M1) : ∀ nn9 : Nat, (∀ (N : mm_M) (x4 : Int32) (x5 : Int32) (u6 : Value), g_G N → FR md_0 M N → (0 ≤ x5.toInt) → (x5.toInt ≤ 30) → (x5.toInt ≤ P9.2 p.toInt) → (PKc N P9) → (PLC N K ov ho ca 30) → (x_dpl (P9.1 p.toInt) (x_dt K ov ho x) (P9.2 p.toInt - x5.toInt).toNat (x5.toInt).toNat x4 = x_dpl (P9.1 p.toInt) (x_dt K ov ho x) (P9.2 p.toInt).toNat 0 0) → 30 - x5.toInt < (nn9 : Int) → mm_T X d 27 6 [.ref 17, .int p, .long x, .null, .int x4, .int x5, u6] [] N Q) := by
  intro nn9
  induction nn9 with
  | zero =>
    intro N x4 x5 u6 hG F0 g1 g2 g3 g4 g5 g6 hm
    exfalso; omega
  | succ nn9 ih =>
    intro N x4 x5 u6 hG F0 g1 g2 g3 g4 g5 g6 hm
    have z_1 := x_pg_le (p := p.toInt) q8 (by omega) (by omega)
    refine to_i (pc := 6) rw_27_6 rfl (to_an (pc := 8) rw_27_8 rfl (s_gR (pc := 9) rw_27_9 hG rfl (v := 25) rfl (to_in (pc := 12) rw_27_12 rfl (s_ial (pc := 13) rw_27_13 hG rfl (n := 6) rfl rfl (A := p.toInt) rfl (by omega) (by omega) (lo := 0) (hi := 30) rfl rfl (fun v2 w_3 _ _ => ?_)))))
    have z_4 := PKc_u (p := p.toInt) g4 (by omega) (by omega) w_3
    refine b_cge (pc := 14) rw_27_14 (A := x5.toInt) (B := v2.toInt) rfl rfl (fun h5 => ?_) (fun h5 => ?_)
    · refine to_i (pc := 53) rw_27_53 rfl (to_r0 (pc := 55) rw_27_55 ?_)
      exact h x4 N hG F0 (x_dpl_x (by omega) g6)
    · refine to_an (pc := 17) rw_27_17 rfl (s_gR (pc := 18) rw_27_18 hG rfl (v := 18) rfl (to_in (pc := 21) rw_27_21 rfl (s_aalE (pc := 22) rw_27_22 hG (A := p.toInt) rfl (by omega) (by omega) (fun r6 e7 => ?_))))
      have hr6 : 19 ≤ r6 ∧ r6 ≤ 24 := by omega
      refine to_i (pc := 23) rw_27_23 rfl (s_ial (pc := 25) rw_27_25 hG (by rcases rr_6 hr6 with z | z | z | z | z | z <;> rw [z] <;> rfl) (n := 30) (by rcases rr_6 hr6 with z | z | z | z | z | z <;> rw [z] <;> rfl) (by rcases rr_6 hr6 with z | z | z | z | z | z <;> rw [z] <;> rfl) (A := x5.toInt) rfl (by omega) (by omega) (lo := 0) (hi := 29) (by rcases rr_6 hr6 with z | z | z | z | z | z <;> rw [z] <;> rfl) (by rcases rr_6 hr6 with z | z | z | z | z | z <;> rw [z] <;> rfl) (fun v8 w_9 _ _ => ?_))
      have z_10 := PKc_r (p := p.toInt) (k := x5.toInt) g4 (by omega) (by omega) e7 (by omega) (by omega) w_9
      have z_11 := (q8.2 p.toInt (by omega) (by omega)).2 (x5.toInt).toNat (by omega)
      refine to_is (pc := 26) rw_27_26 (ls2 := [.ref 17, .int p, .long x, .null, .int x4, .int x5, .int v8]) rfl rfl (to_an (pc := 28) rw_27_28 rfl (to_i (pc := 29) rw_27_29 rfl (to_ln (pc := 31) rw_27_31 rfl rfl rfl (s_v (pc := 32) rw_27_32 (dp0 hd (by decide)) (ls0 := [.ref 17, .int v8, .long x, .null]) rfl (Nat.le_of_ble_eq_true rfl) (Nat.le_of_ble_eq_true rfl) rfl (to_rc rfl rfl rfl (g_o hG rfl)) rfl (to_an (pc := 0) rw_26_0 rfl (s_gR (pc := 1) rw_26_1 hG rfl (v := 27) rfl (to_in (pc := 4) rw_26_4 rfl (s_lalE (pc := 5) rw_26_5 hG rfl (n := 30) rfl (A := v8.toInt) rfl (by omega) (by omega) (fun l12 w_13 => ?_)))))))))
      have z_14 := PLC_t (nd := x) (c := v8.toInt) g5 (by omega) (by omega) (by omega) (by omega) (by omega) q10 w_13
      refine to_ln (pc := 6) rw_26_6 rfl rfl rfl (to_2l (pc := 7) rw_26_7 (v := (l12 &&& x)) rfl (to_ln (pc := 8) rw_26_8 rfl rfl rfl (s_lcmpE (pc := 9) rw_26_9 (fun v15 e16 => ?_))))
      have b_17 := x_eq_b (x := (l12 &&& x)) (y := x)
      refine b_ine (pc := 10) rw_26_10 (A := v15.toInt) rfl (fun h18 => ?_) (fun h18 => ?_)
      · refine to_c (pc := 17) rw_26_17 (x := (0 : Int32)) rfl rfl (s_r1 (pc := 18) rw_26_18 (A := 0) rfl (by decide) (b_ieq_t (pc := 35) rw_27_35 (A := 0) rfl (by decide) (s_inc (pc := 47) rw_27_47 (ls2 := fun v => [.ref 17, .int p, .long x, .null, .int x4, .int v, .int v8]) rfl rfl (fun _ => rfl) (A := x5.toInt) (B := 1) rfl rfl (by omega) (fun v19 e20 => to_go (pc := 50) rw_27_50 ?_))))
        exact ih N x4 v19 (.int v8) hG F0 (by omega) (by omega) (by omega) g4 g5 (x_dpl_s (by omega) (by omega) (by omega) g6 (x_dpl_n (c := v8.toInt) (fun y => by have := z_14.mpr y; omega) z_10 rfl)) (by omega)
      · refine to_c (pc := 13) rw_26_13 (x := (1 : Int32)) rfl rfl (to_go (pc := 14) rw_26_14 (s_r1 (pc := 18) rw_26_18 (A := 1) rfl (by decide) (b_ieq_f (pc := 35) rw_27_35 (A := 1) rfl (by decide) (to_i (pc := 38) rw_27_38 rfl (to_c (pc := 40) rw_27_40 (x := (1 : Int32)) rfl rfl (to_i (pc := 41) rw_27_41 rfl (s_opE (pc := 43) rw_27_43 (w := (1 : Int32) <<< v8) rfl (fun v21 e22 => s_opE (pc := 44) rw_27_44 (w := x4 ||| v21) rfl (fun v23 e24 => to_is (pc := 45) rw_27_45 (ls2 := [.ref 17, .int p, .long x, .null, .int v23, .int x5, .int v8]) rfl rfl (s_inc (pc := 47) rw_27_47 (ls2 := fun v => [.ref 17, .int p, .long x, .null, .int v23, .int v, .int v8]) rfl rfl (fun _ => rfl) (A := x5.toInt) (B := 1) rfl rfl (by omega) (fun v25 e26 => to_go (pc := 50) rw_27_50 ?_)))))))))))
        exact ih N v23 v25 (.int v8) hG F0 (by omega) (by omega) (by omega) g4 g5 (x_dpl_s (by omega) (by omega) (by omega) g6 (x_dpl_y (c := v8.toInt) (z_14.mp (by omega)) z_10 e22 rfl e24)) (by omega)
set_option maxRecDepth 4000 in
set_option maxHeartbeats 0 in
theorem E_27 {X : mm_X} {d : Nat} {M : mm_M} {Q : Option Value → mm_M → Prop} {p : Int32} {x : Int64} {P9 : x_P} {K : x_Kn} {ca : Int} {ov : Int32} {ho : Int} {n9 : Int} (hX : g_X X) (hd : 1 ≤ d) (hG : g_G M) (q1 : 0 ≤ p.toInt) (q2 : p.toInt ≤ 5) (q3 : 0 ≤ ho) (q4 : ho ≤ 60) (q5 : ca ≤ 30) (q6 : n9 ≤ 30) (q7 : PKc M P9) (q8 : x_pg P9 n9 ca) (q9 : PLC M K ov ho ca 30) (q10 : ∀ i : Nat, x_on x i = true → (i : Int) < ho) (h : ∀ (r : Int32) (M1 : mm_M), g_G M1 → FR md_0 M M1 → (r = x_dpl (P9.1 p.toInt) (x_dt K ov ho x) (P9.2 p.toInt).toNat 0 0) → Q (some (.int r)) M1) : mm_T X d 27 0 [.ref 17, .int p, .long x, .null, .null, .null, .null] [] M Q := by
  have F0 : FR md_0 M M := FR.rf
  have z_27 := x_pg_le (p := p.toInt) q8 (by omega) (by omega)
  refine to_c (pc := 0) rw_27_0 (x := (0 : Int32)) rfl rfl (to_is (pc := 1) rw_27_1 (ls2 := [.ref 17, .int p, .long x, .null, .int (0 : Int32), .null, .null]) rfl rfl (to_c (pc := 3) rw_27_3 (x := (0 : Int32)) rfl rfl (to_is (pc := 4) rw_27_4 (ls2 := [.ref 17, .int p, .long x, .null, .int (0 : Int32), .int (0 : Int32), .null]) rfl rfl ?_)))
  have k_28 : (0 : Int32).toInt = 0 := rfl
  exact (U_27_0 (p := p) (x := x) (P9 := P9) (K := K) (ca := ca) (ov := ov) (ho := ho) (n9 := n9) hX hd q1 q2 q3 q4 q5 q6 q7 q8 q9 q10 h ((30 - (0 : Int32).toInt).toNat + 1)) M (0 : Int32) (0 : Int32) (.null) hG F0 (by omega) (by omega) (by omega) q7 q9 (x_dpl_0 (by omega) rfl) (by omega)
