theorem tg_147 : ∀ a i : Nat, (a < 0) → (a = 77 ∧ i = 42 ∨ a = 99 ∨ a = 100 ∨ a = 109) := fun a i z => by omega
theorem tg_148 : ∀ a i : Nat, (a = 99 ∨ a = 100) → (a = 77 ∧ i = 42 ∨ a = 99 ∨ a = 100 ∨ a = 109) := fun a i z => by omega
theorem tg_149 : ∀ a i : Nat, (a = 99 ∨ a = 100) → (a = 99 ∨ a = 100) := fun a i z => by omega
set_option maxRecDepth 4000 in
set_option maxHeartbeats 0 in
theorem U_207_0 {X : mm_X} {d : Nat} {M : mm_M} {Q : Option Value → mm_M → Prop} {c : Int32} {x : Int64} {sg : x_S} {ca : Int} {K : x_Kn} (hX : g_X X) (hd : 1 ≤ d) (q1 : 0 ≤ c.toInt) (q2 : c.toInt < ca) (q3 : ca ≤ 30) (q4 : KST M 96 98 97 95 ca sg K) (h : ∀ (r : Int32) (M1 : mm_M), g_G M1 → FR md_0 M M1 → (0 ≤ r.toInt) → (r.toInt ≤ 1) → ((r.toInt = 1 ↔ x_dt K (M1.2.1 77 41) (M1.2.1 77 11).toInt x c.toInt = true)) → Q (some (.int r)) M1) : ∀ nn9 : Nat, (∀ (N : mm_M) (x4 : Int32), g_G N → FR md_0 M N → (0 ≤ x4.toInt) → (x4.toInt ≤ 60) → (x4.toInt ≤ (N.2.1 77 11).toInt) → (KST N 96 98 97 95 ca sg K) → (x_dtr (K.1 (c.toInt).toNat) x (N.2.1 77 11).toInt (x_ov (N.2.1 77 41) c.toInt) (x4.toInt).toNat = true) → 60 - x4.toInt < (nn9 : Int) → mm_T X d 206 3 [.ref 77, .int c, .long x, .null, .int x4] [] N Q) := by
  intro nn9
  induction nn9 with
  | zero =>
    intro N x4 hG F0 g1 g2 g3 g4 g5 hm
    have b_1 := g_b hG (a := 77) (i := 11) (lo := 10) (hi := 60) rfl rfl
    exfalso; omega
  | succ nn9 ih =>
    intro N x4 hG F0 g1 g2 g3 g4 g5 hm
    have b_2 := g_b hG (a := 77) (i := 11) (lo := 10) (hi := 60) rfl rfl
    refine to_i (pc := 3) rw_207_3 rfl (to_an (pc := 5) rw_207_5 rfl (tt_gI (pc := 6) rw_207_6 (g_o hG rfl) (v := (N.2.1 77 11)) rfl (b_cge (pc := 9) rw_207_9 (A := x4.toInt) (B := (N.2.1 77 11).toInt) rfl rfl (fun h3 => ?_) (fun h3 => ?_))))
    · refine to_c (pc := 67) rw_207_67 (x := (1 : Int32)) rfl rfl (s_r1 (pc := 68) rw_207_68 (A := 1) rfl (by decide) ?_)
      have k_4 : (1 : Int32).toInt = 1 := rfl
      exact h (1 : Int32) N hG F0 (by decide) (by decide) ⟨fun _ => x_fa_v (by omega) g5, fun _ => by omega⟩
    · refine to_ln (pc := 12) rw_207_12 rfl rfl rfl (to_i (pc := 13) rw_207_13 rfl (s_s (pc := 15) rw_207_15 (dp0 hd (by decide)) (ls0 := [.long x, .null, .int x4]) rfl (Nat.le_of_ble_eq_true rfl) (Nat.le_of_ble_eq_true rfl) rfl (to_rcs rfl rfl) rfl (to_ln (pc := 0) rw_150_0 rfl rfl rfl (to_in (pc := 1) rw_150_1 rfl (to_2s (pc := 2) rw_150_2 (v := (x >>> (x4.toInt64 &&& 63))) rfl (to_cl (pc := 3) rw_150_3 rfl (x := (1 : Int64)) rfl (to_2l (pc := 4) rw_150_4 (v := ((x >>> (x4.toInt64 &&& 63)) &&& (1 : Int64))) rfl (to_cl (pc := 5) rw_150_5 rfl (x := (1 : Int64)) rfl (s_lcmpE (pc := 6) rw_150_6 (fun v5 e6 => ?_))))))))))
      have b_7 := x_eq_b (x := ((x >>> (x4.toInt64 &&& 63)) &&& (1 : Int64))) (y := (1 : Int64))
      have z_8 := x_of_e (x := x) (v := x4) (h := x4.toInt) rfl (by omega) (by omega)
      refine b_ine (pc := 7) rw_150_7 (A := v5.toInt) rfl (fun h9 => ?_) (fun h9 => ?_)
      · refine to_c (pc := 14) rw_150_14 (x := (0 : Int32)) rfl rfl (s_r1 (pc := 15) rw_150_15 (A := 0) rfl (by decide) (b_ieq_t (pc := 18) rw_207_18 (A := 0) rfl (by decide) (s_inc (pc := 61) rw_207_61 (ls2 := fun v => [.ref 77, .int c, .long x, .null, .int v]) rfl rfl (fun _ => rfl) (A := x4.toInt) (B := 1) rfl rfl (by omega) (fun v10 e11 => to_go (pc := 64) rw_207_64 ?_))))
        exact ih N v10 hG F0 (by omega) (by omega) (by omega) g4 (x_fa_s g5 (by omega) (by omega) (fun z => by exfalso; have := z_8.mpr z; omega)) (by omega)
      · refine to_c (pc := 10) rw_150_10 (x := (1 : Int32)) rfl rfl (to_go (pc := 11) rw_150_11 (s_r1 (pc := 15) rw_150_15 (A := 1) rfl (by decide) (b_ieq_f (pc := 18) rw_207_18 (A := 1) rfl (by decide) (to_an (pc := 21) rw_207_21 rfl (s_gR (pc := 22) rw_207_22 hG rfl (v := 96) rfl (to_in (pc := 25) rw_207_25 rfl (s_lalE (pc := 26) rw_207_26 hG rfl (n := 30) rfl (A := c.toInt) rfl (by omega) (by omega) (fun l12 w_13 => ?_))))))))
        have z_14 : l12 = K.1 (c.toInt).toNat := KST_lc (K := K) g4 (by omega) (by omega) w_13
        refine to_an (pc := 27) rw_207_27 rfl (tt_gI (pc := 28) rw_207_28 (g_o hG rfl) (v := (N.2.1 77 41)) rfl (to_in (pc := 31) rw_207_31 rfl (s_opE (pc := 32) rw_207_32 (w := (N.2.1 77 41) >>> c) rfl (fun v15 e16 => to_c (pc := 33) rw_207_33 (x := (1 : Int32)) rfl rfl (s_and (pc := 34) rw_207_34 (B := 1) rfl (by omega) (fun v17 e18 _ _ => to_c (pc := 35) rw_207_35 (x := (1 : Int32)) rfl rfl (b_cne (pc := 36) rw_207_36 (A := v17.toInt) (B := 1) rfl rfl (fun h19 => ?_) (fun h19 => ?_))))))))
        · refine to_i (pc := 51) rw_207_51 rfl (s_s (pc := 53) rw_207_53 (dp0 hd (by decide)) (ls0 := [.long l12, .null, .int x4]) rfl (Nat.le_of_ble_eq_true rfl) (Nat.le_of_ble_eq_true rfl) rfl (to_rcs rfl rfl) rfl (to_ln (pc := 0) rw_150_0 rfl rfl rfl (to_in (pc := 1) rw_150_1 rfl (to_2s (pc := 2) rw_150_2 (v := (l12 >>> (x4.toInt64 &&& 63))) rfl (to_cl (pc := 3) rw_150_3 rfl (x := (1 : Int64)) rfl (to_2l (pc := 4) rw_150_4 (v := ((l12 >>> (x4.toInt64 &&& 63)) &&& (1 : Int64))) rfl (to_cl (pc := 5) rw_150_5 rfl (x := (1 : Int64)) rfl (s_lcmpE (pc := 6) rw_150_6 (fun v20 e21 => ?_)))))))))
          have b_22 := x_eq_b (x := ((l12 >>> (x4.toInt64 &&& 63)) &&& (1 : Int64))) (y := (1 : Int64))
          have z_23 := x_of_e (x := l12) (v := x4) (h := x4.toInt) rfl (by omega) (by omega)
          refine b_ine (pc := 7) rw_150_7 (A := v20.toInt) rfl (fun h24 => ?_) (fun h24 => ?_)
          · refine to_c (pc := 14) rw_150_14 (x := (0 : Int32)) rfl rfl (s_r1 (pc := 15) rw_150_15 (A := 0) rfl (by decide) (b_ine_f (pc := 56) rw_207_56 (A := 0) rfl (by decide) (to_c (pc := 59) rw_207_59 (x := (0 : Int32)) rfl rfl (s_r1 (pc := 60) rw_207_60 (A := 0) rfl (by decide) ?_))))
            have k_25 : (0 : Int32).toInt = 0 := rfl
            exact h (0 : Int32) N hG F0 (by decide) (by decide) ⟨fun z => absurd z (by decide), fun z => absurd z (x_fa_x (h := x4.toInt) (by omega) (by omega) (z_8.mp (by omega)) (fun y => by rw [← (x_pl_f (ho := (N.2.1 77 11).toInt) (n := (x4.toInt).toNat) (v := x4.toInt) (x_ov_n e16 e18 rfl (by omega)) (by omega)), ← z_14] at y; have := z_23.mpr y; omega))⟩
          · refine to_c (pc := 10) rw_150_10 (x := (1 : Int32)) rfl rfl (to_go (pc := 11) rw_150_11 (s_r1 (pc := 15) rw_150_15 (A := 1) rfl (by decide) (b_ine_t (pc := 56) rw_207_56 (A := 1) rfl (by decide) (s_inc (pc := 61) rw_207_61 (ls2 := fun v => [.ref 77, .int c, .long x, .null, .int v]) rfl rfl (fun _ => rfl) (A := x4.toInt) (B := 1) rfl rfl (by omega) (fun v26 e27 => to_go (pc := 64) rw_207_64 ?_)))))
            exact ih N v26 hG F0 (by omega) (by omega) (by omega) g4 (x_fa_s g5 (by omega) (by omega) (fun _ => by rw [← (x_pl_f (ho := (N.2.1 77 11).toInt) (n := (x4.toInt).toNat) (v := x4.toInt) (x_ov_n e16 e18 rfl (by omega)) (by omega)), ← z_14]; exact z_23.mp (by omega))) (by omega)
        · refine to_an (pc := 39) rw_207_39 rfl (tt_gI (pc := 40) rw_207_40 (g_o hG rfl) (v := (N.2.1 77 11)) rfl (to_c (pc := 43) rw_207_43 (x := (1 : Int32)) rfl rfl (s_sub (pc := 44) rw_207_44 (A := (N.2.1 77 11).toInt) (B := 1) rfl rfl (by omega) (fun v28 e29 => to_i (pc := 45) rw_207_45 rfl (s_sub (pc := 47) rw_207_47 (A := v28.toInt) (B := x4.toInt) rfl rfl (by omega) (fun v30 e31 => to_go (pc := 48) rw_207_48 (s_s (pc := 53) rw_207_53 (dp0 hd (by decide)) (ls0 := [.long l12, .null, .int v30]) rfl (Nat.le_of_ble_eq_true rfl) (Nat.le_of_ble_eq_true rfl) rfl (to_rcs rfl rfl) rfl (to_ln (pc := 0) rw_150_0 rfl rfl rfl (to_in (pc := 1) rw_150_1 rfl (to_2s (pc := 2) rw_150_2 (v := (l12 >>> (v30.toInt64 &&& 63))) rfl (to_cl (pc := 3) rw_150_3 rfl (x := (1 : Int64)) rfl ?_)))))))))))
          refine to_2l (pc := 4) rw_150_4 (v := ((l12 >>> (v30.toInt64 &&& 63)) &&& (1 : Int64))) rfl (to_cl (pc := 5) rw_150_5 rfl (x := (1 : Int64)) rfl (s_lcmpE (pc := 6) rw_150_6 (fun v32 e33 => ?_)))
          have b_34 := x_eq_b (x := ((l12 >>> (v30.toInt64 &&& 63)) &&& (1 : Int64))) (y := (1 : Int64))
          have z_35 := x_of_e (x := l12) (v := v30) (h := v30.toInt) rfl (by omega) (by omega)
          refine b_ine (pc := 7) rw_150_7 (A := v32.toInt) rfl (fun h36 => ?_) (fun h36 => ?_)
          · refine to_c (pc := 14) rw_150_14 (x := (0 : Int32)) rfl rfl (s_r1 (pc := 15) rw_150_15 (A := 0) rfl (by decide) (b_ine_f (pc := 56) rw_207_56 (A := 0) rfl (by decide) (to_c (pc := 59) rw_207_59 (x := (0 : Int32)) rfl rfl (s_r1 (pc := 60) rw_207_60 (A := 0) rfl (by decide) ?_))))
            have k_37 : (0 : Int32).toInt = 0 := rfl
            exact h (0 : Int32) N hG F0 (by decide) (by decide) ⟨fun z => absurd z (by decide), fun z => absurd z (x_fa_x (h := x4.toInt) (by omega) (by omega) (z_8.mp (by omega)) (fun y => by rw [← (x_pl_t (ho := (N.2.1 77 11).toInt) (n := (x4.toInt).toNat) (v := v30.toInt) (x_ov_y e16 e18 rfl (by omega)) (by omega)), ← z_14] at y; have := z_35.mpr y; omega))⟩
          · refine to_c (pc := 10) rw_150_10 (x := (1 : Int32)) rfl rfl (to_go (pc := 11) rw_150_11 (s_r1 (pc := 15) rw_150_15 (A := 1) rfl (by decide) (b_ine_t (pc := 56) rw_207_56 (A := 1) rfl (by decide) (s_inc (pc := 61) rw_207_61 (ls2 := fun v => [.ref 77, .int c, .long x, .null, .int v]) rfl rfl (fun _ => rfl) (A := x4.toInt) (B := 1) rfl rfl (by omega) (fun v38 e39 => to_go (pc := 64) rw_207_64 ?_)))))
            exact ih N v38 hG F0 (by omega) (by omega) (by omega) g4 (x_fa_s g5 (by omega) (by omega) (fun _ => by rw [← (x_pl_t (ho := (N.2.1 77 11).toInt) (n := (x4.toInt).toNat) (v := v30.toInt) (x_ov_y e16 e18 rfl (by omega)) (by omega)), ← z_14]; exact z_35.mp (by omega))) (by omega)
set_option maxRecDepth 4000 in
set_option maxHeartbeats 0 in
theorem E_207 {X : mm_X} {d : Nat} {M : mm_M} {Q : Option Value → mm_M → Prop} {c : Int32} {x : Int64} {sg : x_S} {ca : Int} {K : x_Kn} (hX : g_X X) (hd : 1 ≤ d) (hG : g_G M) (q1 : 0 ≤ c.toInt) (q2 : c.toInt < ca) (q3 : ca ≤ 30) (q4 : KST M 96 98 97 95 ca sg K) (h : ∀ (r : Int32) (M1 : mm_M), g_G M1 → FR md_0 M M1 → (0 ≤ r.toInt) → (r.toInt ≤ 1) → ((r.toInt = 1 ↔ x_dt K (M1.2.1 77 41) (M1.2.1 77 11).toInt x c.toInt = true)) → Q (some (.int r)) M1) : mm_T X d 206 0 [.ref 77, .int c, .long x, .null, .null] [] M Q := by
  have F0 : FR md_0 M M := FR.rf
  have b_40 := g_b hG (a := 77) (i := 11) (lo := 10) (hi := 60) rfl rfl
  refine to_c (pc := 0) rw_207_0 (x := (0 : Int32)) rfl rfl (to_is (pc := 1) rw_207_1 (ls2 := [.ref 77, .int c, .long x, .null, .int (0 : Int32)]) rfl rfl ?_)
  have k_41 : (0 : Int32).toInt = 0 := rfl
  exact (U_207_0 (c := c) (x := x) (sg := sg) (ca := ca) (K := K) hX hd q1 q2 q3 q4 h ((60 - (0 : Int32).toInt).toNat + 1)) M (0 : Int32) hG F0 (by omega) (by omega) (by omega) q4 (x_fa_0 (by omega)) (by omega)
set_option maxRecDepth 4000 in
set_option maxHeartbeats 0 in
theorem E_210 {X : mm_X} {d : Nat} {M : mm_M} {Q : Option Value → mm_M → Prop} {p : Int32} {c : Int32} {P9 : x_P} (hX : g_X X) (hd : 0 ≤ d) (hG : g_G M) (q1 : 0 ≤ p.toInt) (q2 : p.toInt ≤ 5) (q3 : 0 ≤ c.toInt) (q4 : c.toInt ≤ 29) (q5 : PKr M P9) (q6 : ∀ q : Int, 0 ≤ q → q ≤ 5 → 0 ≤ P9.2 q ∧ P9.2 q ≤ 30) (q7 : P9.2 p.toInt < 30) (h : ∀ (M1 : mm_M), g_G M1 → FR md_co M M1 → (PKr M1 (x_ap9 P9 p.toInt c.toInt)) → Q (none) M1) : mm_T X d 209 0 [.ref 77, .int p, .int c] [] M Q := by
  have F0 : FR md_co M M := FR.rf
  have z_1 := q6 p.toInt (by omega) (by omega)
  refine to_an (pc := 0) rw_210_0 rfl (s_gR (pc := 1) rw_210_1 hG rfl (v := 99) rfl (to_c (pc := 4) rw_210_4 (x := (30 : Int32)) rfl rfl (to_in (pc := 6) rw_210_6 rfl (s_mul (pc := 7) rw_210_7 (A := 30) (B := p.toInt) rfl rfl (by omega) (fun v2 e3 => to_an (pc := 8) rw_210_8 rfl (s_gR (pc := 9) rw_210_9 hG rfl (v := 100) rfl (to_in (pc := 12) rw_210_12 rfl (s_ial (pc := 13) rw_210_13 hG rfl (n := 6) rfl rfl (A := p.toInt) rfl (by omega) (by omega) (lo := 0) (hi := 30) rfl rfl (fun v4 w_5 _ _ => ?_)))))))))
  have z_6 := PKr_u (p := p.toInt) q5 (by omega) (by omega) w_5
  refine s_add (pc := 14) rw_210_14 (A := v2.toInt) (B := v4.toInt) rfl rfl (by omega) (fun v7 e8 => to_in (pc := 15) rw_210_15 rfl (s_ias (pc := 16) rw_210_16 hG rfl (n := 180) rfl (A := v7.toInt) rfl (by omega) (by omega) (fun M10 W9 => ?_)))
  have hG11 := g_w hG W9 (A := c.toInt) rfl (lo := 0) (hi := 29) rfl rfl (by omega) (by decide)
  have F12 := FR.w F0 W9 (show 99 = 99 ∨ 99 = 100 by decide)
  refine to_an (pc := 17) rw_210_17 rfl (s_gR (pc := 18) rw_210_18 hG11 rfl (v := 100) rfl (to_in (pc := 21) rw_210_21 rfl (to_dup2 (pc := 22) rw_210_22 (s_ialk (pc := 23) rw_210_23 hG11 rfl (n := 6) rfl rfl (A := p.toInt) rfl (by omega) (by omega) (v := v4) (W_n W9 (by omega) w_5) (to_c (pc := 24) rw_210_24 (x := (1 : Int32)) rfl rfl (s_add (pc := 25) rw_210_25 (A := v4.toInt) (B := 1) rfl rfl (by omega) (fun v15 e16 => s_ias (pc := 26) rw_210_26 hG11 rfl (n := 6) rfl (A := p.toInt) rfl (by omega) (by omega) (fun M18 W17 => ?_))))))))
  have hG19 := g_w hG11 W17 (A := v15.toInt) rfl (lo := 0) (hi := 30) rfl rfl (by omega) (by decide)
  have F20 := FR.w F12 W17 (show 100 = 99 ∨ 100 = 100 by decide)
  refine to_rv (pc := 27) rw_210_27 ?_
  exact h M18 hG19 F20 (PKr_a q5 q6 (by omega) (by omega) (by omega) W9 W17 (by omega) rfl rfl (by omega))
set_option maxRecDepth 4000 in
set_option maxHeartbeats 0 in
theorem U_216_0 {X : mm_X} {d : Nat} {M : mm_M} {Q : Option Value → mm_M → Prop} {a : Int32} {P9 : x_P} {sg : x_S} {K : x_Kn} {ca : Int} {ov : Int32} {ho : Int} {n9 : Int} {nd9 : Int64} {f9 : Int} {d9 : Int} {l9 : Int} (hX : g_X X) (hd : 2 ≤ d) (q1 : 0 ≤ a.toInt) (q2 : a.toInt ≤ 39) (q3 : 0 ≤ f9) (q4 : f9 ≤ 5) (q5 : 0 ≤ d9) (q6 : d9 ≤ 5) (q7 : 0 ≤ l9) (q8 : l9 ≤ 5) (q9 : ca ≤ 30) (q10 : n9 ≤ 30) (q11 : (M.2.1 102 (a.toInt).toNat).toInt = f9) (q12 : (M.2.1 103 (a.toInt).toNat).toInt = d9) (q13 : (M.2.1 104 (a.toInt).toNat).toInt = l9) (q14 : (M.2.1 77 42).toInt ≤ 2999) (q15 : (M.2.1 77 11).toInt = ho) (q16 : M.2.1 77 41 = ov) (q17 : PLk M sg) (q18 : KST M 96 98 97 95 ca sg K) (q19 : PKr M P9) (q20 : x_pg P9 n9 ca) (q21 : ∀ i : Nat, x_on nd9 i = true → (i : Int) < ho) (q22 : x_nwl K.2.2.2 (M.2.1 107 (a.toInt).toNat) sg.2.2.1.toNat 0 (M.2.2.1 106 (a.toInt).toNat) = nd9) (h : ∀ (M1 : mm_M), g_G M1 → FR md_pa M M1 → (PKr M1 (x_dl P9 f9 d9 l9 (x_dt K ov ho nd9))) → ((M1.2.1 77 42).toInt = (M.2.1 77 42).toInt + 1) → Q (none) M1) : ∀ nn9 : Nat, (∀ (N : mm_M) (y2 : Int64) (u4 : Value) (x5 : Int32) (x6 : Int32), g_G N → FR md_pa M N → (0 ≤ x6.toInt) → (x6.toInt ≤ 30) → (0 ≤ x5.toInt) → (x5.toInt ≤ 30) → (x6.toInt ≤ x5.toInt) → (x5.toInt = P9.2 f9) → (KST N 96 98 97 95 ca sg K) → ((N.2.1 77 42).toInt = (M.2.1 77 42).toInt) → ((N.2.1 77 11).toInt = ho) → (N.2.1 77 41 = ov) → ((N.2.1 102 (a.toInt).toNat).toInt = f9) → ((N.2.1 103 (a.toInt).toNat).toInt = d9) → ((N.2.1 104 (a.toInt).toNat).toInt = l9) → (y2 = nd9) → (∀ k : Nat, (k : Int) < x5.toInt → (N.2.1 109 k).toInt = P9.1 f9 k) → (∃ P : x_P, PKr N P ∧ x_pg P (n9 - x5.toInt + x6.toInt) ca ∧ x_dlk (P9.1 f9) (x_dt K ov ho nd9) d9 l9 (x5.toInt - x6.toInt).toNat (x6.toInt).toNat P = (x_dl P9 f9 d9 l9 (x_dt K ov ho nd9))) → 30 - x6.toInt < (nn9 : Int) → mm_T X d 215 118 [.ref 77, .int a, .long y2, .null, u4, .int x5, .int x6] [] N Q) := by
  intro nn9
  induction nn9 with
  | zero =>
    intro N y2 u4 x5 x6 hG F0 g1 g2 g3 g4 g5 g6 g7 g8 g9 g10 g11 g12 g13 g14 g15 g16 hm
    have b_1 := g_b hG (a := 77) (i := 11) (lo := 10) (hi := 60) rfl rfl
    exfalso; omega
  | succ nn9 ih =>
    intro N y2 u4 x5 x6 hG F0 g1 g2 g3 g4 g5 g6 g7 g8 g9 g10 g11 g12 g13 g14 g15 g16 hm
    have b_2 := g_b hG (a := 77) (i := 11) (lo := 10) (hi := 60) rfl rfl
    have b_3 := g_b hG (a := 77) (i := 13) (lo := 0) (hi := 12) rfl rfl
    have z_4 := x_pg_le (p := f9) q20 (by omega) (by omega)
    obtain ⟨Pk, pk1, pk2, pk3⟩ := id g16
    have z_5 := x_pg_le (p := d9) pk2 (by omega) (by omega)
    have z_6 := x_pg_le (p := l9) pk2 (by omega) (by omega)
    refine to_i (pc := 118) rw_216_118 rfl (to_i (pc := 120) rw_216_120 rfl (b_cge (pc := 122) rw_216_122 (A := x6.toInt) (B := x5.toInt) rfl rfl (fun h7 => ?_) (fun h7 => ?_)))
    · refine to_an (pc := 172) rw_216_172 rfl (to_dupr (pc := 173) rw_216_173 (tt_gI (pc := 174) rw_216_174 (g_o hG rfl) (v := (N.2.1 77 42)) rfl (to_c (pc := 177) rw_216_177 (x := (1 : Int32)) rfl rfl ?_)))
      have i_10 := i_of (x := (N.2.1 77 42))
      refine s_add (pc := 178) rw_216_178 (A := (N.2.1 77 42).toInt) (B := 1) rfl rfl (by omega) (fun v8 e9 => s_pI (pc := 179) rw_216_179 hG rfl (fun M12 W11 => ?_))
      have hG13 := g_wf hG W11 rfl rfl (by decide)
      have F14 := FR.w F0 W11 (show 77 = 77 ∧ 42 = 42 ∨ 77 = 99 ∨ 77 = 100 ∨ 77 = 109 by decide)
      refine to_rv (pc := 182) rw_216_182 ?_
      have c_15 : M12.2.1 77 42 = v8 := (W_e W11)
      have t_16 : (M12.2.1 77 42).toInt = v8.toInt := congrArg Int32.toInt c_15
      exact h M12 hG13 F14 (by obtain ⟨Pj, pj1, pj2, pj3⟩ := g16; rw [← x_dlk_x (by omega) pj3]; exact PKr_f (fun a i z => (W_n W11 (by /-r77,42-/ omega) rfl)) pj1) (by omega)
    · refine to_an (pc := 125) rw_216_125 rfl (to_an (pc := 126) rw_216_126 rfl (to_an (pc := 127) rw_216_127 rfl (s_gR (pc := 128) rw_216_128 hG rfl (v := 109) rfl (to_i (pc := 131) rw_216_131 rfl (s_ial (pc := 133) rw_216_133 hG rfl (n := 30) rfl rfl (A := x6.toInt) rfl (by omega) (by omega) (lo := 0) (hi := 29) rfl rfl (fun v17 w_18 _ _ => ?_))))))
      have z_19 := (congrArg Int32.toInt w_18).symm.trans (g15 (x6.toInt).toNat (by omega))
      have z_20 := (q20.2 f9 (by omega) (by omega)).2 (x6.toInt).toNat (by omega)
      refine to_ln (pc := 134) rw_216_134 rfl rfl rfl (s_v (pc := 135) rw_216_135 (dp0 hd (by decide)) (ls0 := [.ref 77, .int v17, .long y2, .null, .null]) rfl (Nat.le_of_ble_eq_true rfl) (Nat.le_of_ble_eq_true rfl) rfl (to_rc rfl rfl rfl (g_o hG rfl)) rfl (E_207 hX (dp1 hd (by decide)) hG (by omega) (by omega) (by omega) g7 (c := v17) (x := y2) (sg := sg) (ca := ca) (K := K) (fun r21 M27 hG23 F22 p_24 p_25 p_26 => ?_)))
      have F28 := FR.c F0 F22 tg_147
      have c_29 : M27.2.1 77 11 = (N.2.1 77 11) := (F_n F22 (show ¬ (77 < 0) by decide) rfl)
      have t_30 : (M27.2.1 77 11).toInt = (N.2.1 77 11).toInt := congrArg Int32.toInt c_29
      have z_31 := fa_q (ho := ho) p_26 (((F_n F22 (show ¬ (77 < 0) by decide) rfl)).trans g10) (by omega)
      refine b_ieq (pc := 138) rw_216_138 (A := r21.toInt) rfl (fun h32 => ?_) (fun h32 => ?_)
      · refine to_an (pc := 150) rw_216_150 rfl (s_gR (pc := 151) rw_216_151 hG23 rfl (v := 104) rfl (to_in (pc := 154) rw_216_154 rfl (s_ial (pc := 155) rw_216_155 hG23 rfl (n := 40) rfl rfl (A := a.toInt) rfl (by omega) (by omega) (lo := -1) (hi := 5) rfl rfl (fun v33 w_34 _ _ => ?_))))
        have t_35 := congrArg Int32.toInt w_34
        have t_36 : (M27.2.1 104 (a.toInt).toNat).toInt = (N.2.1 104 (a.toInt).toNat).toInt := congrArg Int32.toInt (F_n F22 (show ¬ (104 < 0) by decide) rfl)
        refine to_an (pc := 156) rw_216_156 rfl (s_gR (pc := 157) rw_216_157 hG23 rfl (v := 109) rfl (to_i (pc := 160) rw_216_160 rfl (s_ialk (pc := 162) rw_216_162 hG23 rfl (n := 30) rfl rfl (A := x6.toInt) rfl (by omega) (by omega) (v := v17) (F_n F22 (show ¬ (109 < 0) by decide) w_18) (s_v (pc := 163) rw_216_163 (dp0 hd (by decide)) (ls0 := [.ref 77, .int v33, .int v17]) rfl (Nat.le_of_ble_eq_true rfl) (Nat.le_of_ble_eq_true rfl) rfl (to_rc rfl rfl rfl (g_o hG23 rfl)) rfl ?_))))
        have z_39 := congrArg Pk.2 (show v33.toInt = l9 by omega)
        have j_40 := (PKr_f (fun a i z => F_n F22 (show ¬ (a < 0) by omega) rfl) pk1)
        refine E_210 hX (dp1 hd (by decide)) hG23 (by omega) (by omega) (by omega) (by omega) j_40 (fun q q0 q1 => by have := x_pg_le pk2 q0 q1; omega) (by omega) (p := v33) (c := v17) (P9 := Pk) (fun M44 hG42 F41 p_43 => ?_)
        have F45 := FR.c F28 F41 tg_148
        refine s_inc (pc := 166) rw_216_166 (ls2 := fun v => [.ref 77, .int a, .long y2, .null, u4, .int x5, .int v]) rfl rfl (fun _ => rfl) (A := x6.toInt) (B := 1) rfl rfl (by omega) (fun v46 e47 => to_go (pc := 169) rw_216_169 ?_)
        have kn_48 : KST M44 96 98 97 95 ca sg K := KST_f (fun i => (F_nl F41 (show ¬ (96 = 99 ∨ 96 = 100) by decide) (F_nl F22 (show ¬ (96 < 0) by decide) rfl))) (fun i => (F_n F41 (show ¬ (98 = 99 ∨ 98 = 100) by decide) (F_n F22 (show ¬ (98 < 0) by decide) rfl))) (fun i => (F_n F41 (show ¬ (97 = 99 ∨ 97 = 100) by decide) (F_n F22 (show ¬ (97 < 0) by decide) rfl))) (fun i => (F_nl F41 (show ¬ (95 = 99 ∨ 95 = 100) by decide) (F_nl F22 (show ¬ (95 < 0) by decide) rfl))) g7
        have c_49 : M44.2.1 77 42 = (N.2.1 77 42) := (F_n F41 (show ¬ (77 = 99 ∨ 77 = 100) by decide) (F_n F22 (show ¬ (77 < 0) by decide) rfl))
        have t_50 : (M44.2.1 77 42).toInt = (N.2.1 77 42).toInt := congrArg Int32.toInt c_49
        have c_51 : M44.2.1 77 11 = (N.2.1 77 11) := (F_n F41 (show ¬ (77 = 99 ∨ 77 = 100) by decide) c_29)
        have t_52 : (M44.2.1 77 11).toInt = (N.2.1 77 11).toInt := congrArg Int32.toInt c_51
        have t_53 : (M44.2.1 102 (a.toInt).toNat).toInt = (N.2.1 102 (a.toInt).toNat).toInt := congrArg Int32.toInt (F_n F41 (show ¬ (102 = 99 ∨ 102 = 100) by decide) (F_n F22 (show ¬ (102 < 0) by decide) rfl))
        have t_54 : (M44.2.1 103 (a.toInt).toNat).toInt = (N.2.1 103 (a.toInt).toNat).toInt := congrArg Int32.toInt (F_n F41 (show ¬ (103 = 99 ∨ 103 = 100) by decide) (F_n F22 (show ¬ (103 < 0) by decide) rfl))
        have t_55 : (M44.2.1 104 (a.toInt).toNat).toInt = (N.2.1 104 (a.toInt).toNat).toInt := congrArg Int32.toInt (F_n F41 (show ¬ (104 = 99 ∨ 104 = 100) by decide) (F_n F22 (show ¬ (104 < 0) by decide) rfl))
        exact ih M44 y2 (u4) x5 v46 hG42 F45 (by omega) (by omega) (by omega) (by omega) (by omega) (by omega) kn_48 (by omega) (by omega) (((F_n F41 (show ¬ (77 = 99 ∨ 77 = 100) by decide) (F_n F22 (show ¬ (77 < 0) by decide) rfl))).trans g10) (by omega) (by omega) (by omega) g14 (fun k hk => by rw [show M44.2.1 109 k = N.2.1 109 k from (F_n F41 (show ¬ (109 = 99 ∨ 109 = 100) by decide) (F_n F22 (show ¬ (109 < 0) by decide) rfl))]; exact g15 k (by omega)) ⟨_, p_43, x_pg_a pk2 (by omega) (by omega) (by omega) (by omega) (by omega), x_dlk_s (by omega) (by omega) (by omega) pk3 (x_dlk_l z_19 (by rw [← z_19, ← g14]; exact (fun y => by have := z_31.mpr y; omega)) (by omega))⟩ (by omega)
      · refine to_an (pc := 141) rw_216_141 rfl (s_gR (pc := 142) rw_216_142 hG23 rfl (v := 103) rfl (to_in (pc := 145) rw_216_145 rfl (s_ial (pc := 146) rw_216_146 hG23 rfl (n := 40) rfl rfl (A := a.toInt) rfl (by omega) (by omega) (lo := -1) (hi := 5) rfl rfl (fun v56 w_57 _ _ => ?_))))
        have t_58 := congrArg Int32.toInt w_57
        have t_59 : (M27.2.1 103 (a.toInt).toNat).toInt = (N.2.1 103 (a.toInt).toNat).toInt := congrArg Int32.toInt (F_n F22 (show ¬ (103 < 0) by decide) rfl)
        refine to_go (pc := 147) rw_216_147 (to_an (pc := 156) rw_216_156 rfl (s_gR (pc := 157) rw_216_157 hG23 rfl (v := 109) rfl (to_i (pc := 160) rw_216_160 rfl (s_ialk (pc := 162) rw_216_162 hG23 rfl (n := 30) rfl rfl (A := x6.toInt) rfl (by omega) (by omega) (v := v17) (F_n F22 (show ¬ (109 < 0) by decide) w_18) (s_v (pc := 163) rw_216_163 (dp0 hd (by decide)) (ls0 := [.ref 77, .int v56, .int v17]) rfl (Nat.le_of_ble_eq_true rfl) (Nat.le_of_ble_eq_true rfl) rfl (to_rc rfl rfl rfl (g_o hG23 rfl)) rfl ?_)))))
        have z_62 := congrArg Pk.2 (show v56.toInt = d9 by omega)
        have j_63 := (PKr_f (fun a i z => F_n F22 (show ¬ (a < 0) by omega) rfl) pk1)
        refine E_210 hX (dp1 hd (by decide)) hG23 (by omega) (by omega) (by omega) (by omega) j_63 (fun q q0 q1 => by have := x_pg_le pk2 q0 q1; omega) (by omega) (p := v56) (c := v17) (P9 := Pk) (fun M67 hG65 F64 p_66 => ?_)
        have F68 := FR.c F28 F64 tg_148
        refine s_inc (pc := 166) rw_216_166 (ls2 := fun v => [.ref 77, .int a, .long y2, .null, u4, .int x5, .int v]) rfl rfl (fun _ => rfl) (A := x6.toInt) (B := 1) rfl rfl (by omega) (fun v69 e70 => to_go (pc := 169) rw_216_169 ?_)
        have kn_71 : KST M67 96 98 97 95 ca sg K := KST_f (fun i => (F_nl F64 (show ¬ (96 = 99 ∨ 96 = 100) by decide) (F_nl F22 (show ¬ (96 < 0) by decide) rfl))) (fun i => (F_n F64 (show ¬ (98 = 99 ∨ 98 = 100) by decide) (F_n F22 (show ¬ (98 < 0) by decide) rfl))) (fun i => (F_n F64 (show ¬ (97 = 99 ∨ 97 = 100) by decide) (F_n F22 (show ¬ (97 < 0) by decide) rfl))) (fun i => (F_nl F64 (show ¬ (95 = 99 ∨ 95 = 100) by decide) (F_nl F22 (show ¬ (95 < 0) by decide) rfl))) g7
        have c_72 : M67.2.1 77 42 = (N.2.1 77 42) := (F_n F64 (show ¬ (77 = 99 ∨ 77 = 100) by decide) (F_n F22 (show ¬ (77 < 0) by decide) rfl))
        have t_73 : (M67.2.1 77 42).toInt = (N.2.1 77 42).toInt := congrArg Int32.toInt c_72
        have c_74 : M67.2.1 77 11 = (N.2.1 77 11) := (F_n F64 (show ¬ (77 = 99 ∨ 77 = 100) by decide) c_29)
        have t_75 : (M67.2.1 77 11).toInt = (N.2.1 77 11).toInt := congrArg Int32.toInt c_74
        have t_76 : (M67.2.1 102 (a.toInt).toNat).toInt = (N.2.1 102 (a.toInt).toNat).toInt := congrArg Int32.toInt (F_n F64 (show ¬ (102 = 99 ∨ 102 = 100) by decide) (F_n F22 (show ¬ (102 < 0) by decide) rfl))
        have t_77 : (M67.2.1 103 (a.toInt).toNat).toInt = (N.2.1 103 (a.toInt).toNat).toInt := congrArg Int32.toInt (F_n F64 (show ¬ (103 = 99 ∨ 103 = 100) by decide) (F_n F22 (show ¬ (103 < 0) by decide) rfl))
        have t_78 : (M67.2.1 104 (a.toInt).toNat).toInt = (N.2.1 104 (a.toInt).toNat).toInt := congrArg Int32.toInt (F_n F64 (show ¬ (104 = 99 ∨ 104 = 100) by decide) (F_n F22 (show ¬ (104 < 0) by decide) rfl))
        exact ih M67 y2 (u4) x5 v69 hG65 F68 (by omega) (by omega) (by omega) (by omega) (by omega) (by omega) kn_71 (by omega) (by omega) (((F_n F64 (show ¬ (77 = 99 ∨ 77 = 100) by decide) (F_n F22 (show ¬ (77 < 0) by decide) rfl))).trans g10) (by omega) (by omega) (by omega) g14 (fun k hk => by rw [show M67.2.1 109 k = N.2.1 109 k from (F_n F64 (show ¬ (109 = 99 ∨ 109 = 100) by decide) (F_n F22 (show ¬ (109 < 0) by decide) rfl))]; exact g15 k (by omega)) ⟨_, p_66, x_pg_a pk2 (by omega) (by omega) (by omega) (by omega) (by omega), x_dlk_s (by omega) (by omega) (by omega) pk3 (x_dlk_d z_19 (by rw [← z_19, ← g14]; exact z_31.mp (by omega)) (by omega))⟩ (by omega)
set_option maxRecDepth 4000 in
set_option maxHeartbeats 0 in
theorem U_216_1 {X : mm_X} {d : Nat} {M : mm_M} {Q : Option Value → mm_M → Prop} {a : Int32} {P9 : x_P} {sg : x_S} {K : x_Kn} {ca : Int} {ov : Int32} {ho : Int} {n9 : Int} {nd9 : Int64} {f9 : Int} {d9 : Int} {l9 : Int} (hX : g_X X) (hd : 2 ≤ d) (q1 : 0 ≤ a.toInt) (q2 : a.toInt ≤ 39) (q3 : 0 ≤ f9) (q4 : f9 ≤ 5) (q5 : 0 ≤ d9) (q6 : d9 ≤ 5) (q7 : 0 ≤ l9) (q8 : l9 ≤ 5) (q9 : ca ≤ 30) (q10 : n9 ≤ 30) (q11 : (M.2.1 102 (a.toInt).toNat).toInt = f9) (q12 : (M.2.1 103 (a.toInt).toNat).toInt = d9) (q13 : (M.2.1 104 (a.toInt).toNat).toInt = l9) (q14 : (M.2.1 77 42).toInt ≤ 2999) (q15 : (M.2.1 77 11).toInt = ho) (q16 : M.2.1 77 41 = ov) (q17 : PLk M sg) (q18 : KST M 96 98 97 95 ca sg K) (q19 : PKr M P9) (q20 : x_pg P9 n9 ca) (q21 : ∀ i : Nat, x_on nd9 i = true → (i : Int) < ho) (q22 : x_nwl K.2.2.2 (M.2.1 107 (a.toInt).toNat) sg.2.2.1.toNat 0 (M.2.2.1 106 (a.toInt).toNat) = nd9) (h : ∀ (M1 : mm_M), g_G M1 → FR md_pa M M1 → (PKr M1 (x_dl P9 f9 d9 l9 (x_dt K ov ho nd9))) → ((M1.2.1 77 42).toInt = (M.2.1 77 42).toInt + 1) → Q (none) M1) : ∀ nn9 : Nat, (∀ (N : mm_M) (y2 : Int64) (x4 : Int32) (x5 : Int32) (x6 : Int32), g_G N → FR md_pa M N → (0 ≤ x6.toInt) → (x6.toInt ≤ 30) → (0 ≤ x5.toInt) → (x5.toInt ≤ 30) → (x6.toInt ≤ x5.toInt) → (0 ≤ x4.toInt) → (x4.toInt ≤ 5) → (x4.toInt = f9) → (x5.toInt = P9.2 f9) → (KST N 96 98 97 95 ca sg K) → (PKr N P9) → ((N.2.1 77 42).toInt = (M.2.1 77 42).toInt) → ((N.2.1 77 11).toInt = ho) → (N.2.1 77 41 = ov) → ((N.2.1 102 (a.toInt).toNat).toInt = f9) → ((N.2.1 103 (a.toInt).toNat).toInt = d9) → ((N.2.1 104 (a.toInt).toNat).toInt = l9) → (y2 = nd9) → (∀ k : Nat, (k : Int) < x6.toInt → (N.2.1 109 k).toInt = P9.1 f9 k) → 30 - x6.toInt < (nn9 : Int) → mm_T X d 215 74 [.ref 77, .int a, .long y2, .null, .int x4, .int x5, .int x6] [] N Q) := by
  intro nn9
  induction nn9 with
  | zero =>
    intro N y2 x4 x5 x6 hG F0 g1 g2 g3 g4 g5 g6 g7 g8 g9 g10 g11 g12 g13 g14 g15 g16 g17 g18 g19 hm
    have b_79 := g_b hG (a := 77) (i := 11) (lo := 10) (hi := 60) rfl rfl
    exfalso; omega
  | succ nn9 ih =>
    intro N y2 x4 x5 x6 hG F0 g1 g2 g3 g4 g5 g6 g7 g8 g9 g10 g11 g12 g13 g14 g15 g16 g17 g18 g19 hm
    have b_80 := g_b hG (a := 77) (i := 11) (lo := 10) (hi := 60) rfl rfl
    have b_81 := g_b hG (a := 77) (i := 13) (lo := 0) (hi := 12) rfl rfl
    have z_82 := x_pg_le (p := f9) q20 (by omega) (by omega)
    refine to_i (pc := 74) rw_216_74 rfl (to_i (pc := 76) rw_216_76 rfl (b_cge (pc := 78) rw_216_78 (A := x6.toInt) (B := x5.toInt) rfl rfl (fun h83 => ?_) (fun h83 => ?_)))
    · refine to_an (pc := 107) rw_216_107 rfl (s_gR (pc := 108) rw_216_108 hG rfl (v := 100) rfl (to_i (pc := 111) rw_216_111 rfl (to_c (pc := 113) rw_216_113 (x := (0 : Int32)) rfl rfl (s_ias (pc := 114) rw_216_114 hG rfl (n := 6) rfl (A := x4.toInt) rfl (by omega) (by omega) (fun M85 W84 => ?_)))))
      have hG86 := g_w hG W84 (A := 0) rfl (lo := 0) (hi := 30) rfl rfl (by omega) (by decide)
      have F87 := FR.w F0 W84 (show 100 = 77 ∧ (x4.toInt).toNat = 42 ∨ 100 = 99 ∨ 100 = 100 ∨ 100 = 109 by omega)
      refine to_c (pc := 115) rw_216_115 (x := (0 : Int32)) rfl rfl (to_is (pc := 116) rw_216_116 (ls2 := [.ref 77, .int a, .long y2, .null, .int x4, .int x5, .int (0 : Int32)]) rfl rfl ?_)
      have k_88 : (0 : Int32).toInt = 0 := rfl
      have kn_89 : KST M85 96 98 97 95 ca sg K := KST_f (fun i => (W_j W84 rfl)) (fun i => (W_n W84 (by omega) rfl)) (fun i => (W_n W84 (by omega) rfl)) (fun i => (W_j W84 rfl)) g10
      have c_90 : M85.2.1 77 42 = (N.2.1 77 42) := (W_n W84 (fun z => absurd z.1 (by decide)) rfl)
      have t_91 : (M85.2.1 77 42).toInt = (N.2.1 77 42).toInt := congrArg Int32.toInt c_90
      have c_92 : M85.2.1 77 11 = (N.2.1 77 11) := (W_n W84 (fun z => absurd z.1 (by decide)) rfl)
      have t_93 : (M85.2.1 77 11).toInt = (N.2.1 77 11).toInt := congrArg Int32.toInt c_92
      have t_94 : (M85.2.1 102 (a.toInt).toNat).toInt = (N.2.1 102 (a.toInt).toNat).toInt := congrArg Int32.toInt (W_n W84 (by omega) rfl)
      have t_95 : (M85.2.1 103 (a.toInt).toNat).toInt = (N.2.1 103 (a.toInt).toNat).toInt := congrArg Int32.toInt (W_n W84 (by omega) rfl)
      have t_96 : (M85.2.1 104 (a.toInt).toNat).toInt = (N.2.1 104 (a.toInt).toNat).toInt := congrArg Int32.toInt (W_n W84 (by omega) rfl)
      exact (U_216_0 (a := a) (P9 := P9) (sg := sg) (K := K) (ca := ca) (ov := ov) (ho := ho) (n9 := n9) (nd9 := nd9) (f9 := f9) (d9 := d9) (l9 := l9) hX hd q1 q2 q3 q4 q5 q6 q7 q8 q9 q10 q11 q12 q13 q14 q15 q16 q17 q18 q19 q20 q21 q22 h ((30 - (0 : Int32).toInt).toNat + 1)) M85 y2 (.int x4) x5 (0 : Int32) hG86 F87 (by omega) (by omega) (by omega) (by omega) (by omega) (by omega) kn_89 (by omega) (by omega) (((W_n W84 (by omega) rfl)).trans g14) (by omega) (by omega) (by omega) g18 (fun k hk => by rw [show M85.2.1 109 k = N.2.1 109 k from (W_n W84 (by omega) rfl)]; exact g19 k (by omega)) ⟨x_z9 P9 f9, PKr_z g11 (by omega) (by omega) W84 (by omega) rfl, x_pg_z q20 (by omega) (by omega) (by omega), by rw [x_dlk_0 (by omega), show x5.toInt = P9.2 f9 by omega]; rfl⟩ (by omega)
    · refine to_an (pc := 81) rw_216_81 rfl (s_gR (pc := 82) rw_216_82 hG rfl (v := 109) rfl (to_i (pc := 85) rw_216_85 rfl (to_an (pc := 87) rw_216_87 rfl (s_gR (pc := 88) rw_216_88 hG rfl (v := 99) rfl (to_c (pc := 91) rw_216_91 (x := (30 : Int32)) rfl rfl (to_i (pc := 93) rw_216_93 rfl (s_mul (pc := 95) rw_216_95 (A := 30) (B := x4.toInt) rfl rfl (by omega) (fun v97 e98 => to_i (pc := 96) rw_216_96 rfl (s_add (pc := 98) rw_216_98 (A := v97.toInt) (B := x6.toInt) rfl rfl (by omega) (fun v99 e100 => s_ial (pc := 99) rw_216_99 hG rfl (n := 180) rfl rfl (A := v99.toInt) rfl (by omega) (by omega) (lo := 0) (hi := 29) rfl rfl (fun v101 w_102 _ _ => ?_)))))))))))
      have z_103 := PKr_r (p := f9) (k := x6.toInt) (i := v99.toInt) g11 (by omega) (by omega) (by omega) (by omega) (by omega) w_102
      refine s_ias (pc := 100) rw_216_100 hG rfl (n := 30) rfl (A := x6.toInt) rfl (by omega) (by omega) (fun M105 W104 => ?_)
      have hG106 := g_w hG W104 (A := v101.toInt) rfl (lo := 0) (hi := 29) rfl rfl (by omega) (by decide)
      have F107 := FR.w F0 W104 (show 109 = 77 ∧ (x6.toInt).toNat = 42 ∨ 109 = 99 ∨ 109 = 100 ∨ 109 = 109 by omega)
      refine s_inc (pc := 101) rw_216_101 (ls2 := fun v => [.ref 77, .int a, .long y2, .null, .int x4, .int x5, .int v]) rfl rfl (fun _ => rfl) (A := x6.toInt) (B := 1) rfl rfl (by omega) (fun v108 e109 => to_go (pc := 104) rw_216_104 ?_)
      have kn_110 : KST M105 96 98 97 95 ca sg K := KST_f (fun i => (W_j W104 rfl)) (fun i => (W_n W104 (by omega) rfl)) (fun i => (W_n W104 (by omega) rfl)) (fun i => (W_j W104 rfl)) g10
      have j_111 := (PKr_f (fun a i z => W_n W104 (by /-r109-/ omega) rfl) g11)
      have c_112 : M105.2.1 77 42 = (N.2.1 77 42) := (W_n W104 (fun z => absurd z.1 (by decide)) rfl)
      have t_113 : (M105.2.1 77 42).toInt = (N.2.1 77 42).toInt := congrArg Int32.toInt c_112
      have c_114 : M105.2.1 77 11 = (N.2.1 77 11) := (W_n W104 (fun z => absurd z.1 (by decide)) rfl)
      have t_115 : (M105.2.1 77 11).toInt = (N.2.1 77 11).toInt := congrArg Int32.toInt c_114
      have t_116 : (M105.2.1 102 (a.toInt).toNat).toInt = (N.2.1 102 (a.toInt).toNat).toInt := congrArg Int32.toInt (W_n W104 (by omega) rfl)
      have t_117 : (M105.2.1 103 (a.toInt).toNat).toInt = (N.2.1 103 (a.toInt).toNat).toInt := congrArg Int32.toInt (W_n W104 (by omega) rfl)
      have t_118 : (M105.2.1 104 (a.toInt).toNat).toInt = (N.2.1 104 (a.toInt).toNat).toInt := congrArg Int32.toInt (W_n W104 (by omega) rfl)
      exact ih M105 y2 x4 x5 v108 hG106 F107 (by omega) (by omega) (by omega) (by omega) (by omega) (by omega) (by omega) (by omega) (by omega) kn_110 j_111 (by omega) (by omega) (((W_n W104 (by omega) rfl)).trans g14) (by omega) (by omega) (by omega) g18 (fun k hk => by
          by_cases gk9 : (k : Int) < x6.toInt
          · rw [show M105.2.1 109 k = N.2.1 109 k from W_n W104 (by omega) rfl]; exact g19 k gk9
          · rw [show k = (x6.toInt).toNat by omega, W_e W104]; exact z_103) (by omega)
set_option maxRecDepth 4000 in
set_option maxHeartbeats 0 in
theorem U_216_2 {X : mm_X} {d : Nat} {M : mm_M} {Q : Option Value → mm_M → Prop} {a : Int32} {P9 : x_P} {sg : x_S} {K : x_Kn} {ca : Int} {ov : Int32} {ho : Int} {n9 : Int} {nd9 : Int64} {f9 : Int} {d9 : Int} {l9 : Int} (hX : g_X X) (hd : 2 ≤ d) (q1 : 0 ≤ a.toInt) (q2 : a.toInt ≤ 39) (q3 : 0 ≤ f9) (q4 : f9 ≤ 5) (q5 : 0 ≤ d9) (q6 : d9 ≤ 5) (q7 : 0 ≤ l9) (q8 : l9 ≤ 5) (q9 : ca ≤ 30) (q10 : n9 ≤ 30) (q11 : (M.2.1 102 (a.toInt).toNat).toInt = f9) (q12 : (M.2.1 103 (a.toInt).toNat).toInt = d9) (q13 : (M.2.1 104 (a.toInt).toNat).toInt = l9) (q14 : (M.2.1 77 42).toInt ≤ 2999) (q15 : (M.2.1 77 11).toInt = ho) (q16 : M.2.1 77 41 = ov) (q17 : PLk M sg) (q18 : KST M 96 98 97 95 ca sg K) (q19 : PKr M P9) (q20 : x_pg P9 n9 ca) (q21 : ∀ i : Nat, x_on nd9 i = true → (i : Int) < ho) (q22 : x_nwl K.2.2.2 (M.2.1 107 (a.toInt).toNat) sg.2.2.1.toNat 0 (M.2.2.1 106 (a.toInt).toNat) = nd9) (h : ∀ (M1 : mm_M), g_G M1 → FR md_pa M M1 → (PKr M1 (x_dl P9 f9 d9 l9 (x_dt K ov ho nd9))) → ((M1.2.1 77 42).toInt = (M.2.1 77 42).toInt + 1) → Q (none) M1) : ∀ nn9 : Nat, (∀ (N : mm_M) (y2 : Int64) (x4 : Int32) (u5 : Value) (u6 : Value), g_G N → FR md_pa M N → (0 ≤ x4.toInt) → (x4.toInt ≤ 12) → (x4.toInt ≤ sg.2.2.1) → (PLk N sg) → (KST N 96 98 97 95 ca sg K) → (PKr N P9) → ((N.2.1 77 42).toInt = (M.2.1 77 42).toInt) → ((N.2.1 77 11).toInt = ho) → (N.2.1 77 41 = ov) → ((N.2.1 102 (a.toInt).toNat).toInt = f9) → ((N.2.1 103 (a.toInt).toNat).toInt = d9) → ((N.2.1 104 (a.toInt).toNat).toInt = l9) → (x_nwl K.2.2.2 (N.2.1 107 (a.toInt).toNat) (sg.2.2.1 - x4.toInt).toNat (x4.toInt).toNat y2 = nd9) → 12 - x4.toInt < (nn9 : Int) → mm_T X d 215 10 [.ref 77, .int a, .long y2, .null, .int x4, u5, u6] [] N Q) := by
  intro nn9
  induction nn9 with
  | zero =>
    intro N y2 x4 u5 u6 hG F0 g1 g2 g3 g4 g5 g6 g7 g8 g9 g10 g11 g12 g13 hm
    have b_119 := g_b hG (a := 77) (i := 11) (lo := 10) (hi := 60) rfl rfl
    exfalso; omega
  | succ nn9 ih =>
    intro N y2 x4 u5 u6 hG F0 g1 g2 g3 g4 g5 g6 g7 g8 g9 g10 g11 g12 g13 hm
    have b_120 := g_b hG (a := 77) (i := 11) (lo := 10) (hi := 60) rfl rfl
    have b_121 := g_b hG (a := 77) (i := 13) (lo := 0) (hi := 12) rfl rfl
    have z_122 := x_pg_le (p := f9) q20 (by omega) (by omega)
    have z_123 := g4.2.2.2.1
    refine to_i (pc := 10) rw_216_10 rfl (to_an (pc := 12) rw_216_12 rfl (tt_gI (pc := 13) rw_216_13 (g_o hG rfl) (v := (N.2.1 77 13)) rfl (b_cge (pc := 16) rw_216_16 (A := x4.toInt) (B := (N.2.1 77 13).toInt) rfl rfl (fun h124 => ?_) (fun h124 => ?_))))
    · refine to_an (pc := 54) rw_216_54 rfl (s_gR (pc := 55) rw_216_55 hG rfl (v := 102) rfl (to_in (pc := 58) rw_216_58 rfl (s_ial (pc := 59) rw_216_59 hG rfl (n := 40) rfl rfl (A := a.toInt) rfl (by omega) (by omega) (lo := -1) (hi := 99) rfl rfl (fun v125 w_126 _ _ => ?_))))
      have t_127 := congrArg Int32.toInt w_126
      refine to_is (pc := 60) rw_216_60 (ls2 := [.ref 77, .int a, .long y2, .null, .int v125, u5, u6]) rfl rfl (to_an (pc := 62) rw_216_62 rfl (s_gR (pc := 63) rw_216_63 hG rfl (v := 100) rfl (to_i (pc := 66) rw_216_66 rfl (s_ial (pc := 68) rw_216_68 hG rfl (n := 6) rfl rfl (A := v125.toInt) rfl (by omega) (by omega) (lo := 0) (hi := 30) rfl rfl (fun v128 w_129 _ _ => ?_)))))
      have z_130 := PKr_u (p := f9) g6 (by omega) (by omega) (show N.2.1 100 (f9).toNat = v128 from by rw [show (f9).toNat = (v125.toInt).toNat by omega]; exact w_129)
      refine to_is (pc := 69) rw_216_69 (ls2 := [.ref 77, .int a, .long y2, .null, .int v125, .int v128, u6]) rfl rfl (to_c (pc := 71) rw_216_71 (x := (0 : Int32)) rfl rfl (to_is (pc := 72) rw_216_72 (ls2 := [.ref 77, .int a, .long y2, .null, .int v125, .int v128, .int (0 : Int32)]) rfl rfl ?_))
      have k_131 : (0 : Int32).toInt = 0 := rfl
      exact (U_216_1 (a := a) (P9 := P9) (sg := sg) (K := K) (ca := ca) (ov := ov) (ho := ho) (n9 := n9) (nd9 := nd9) (f9 := f9) (d9 := d9) (l9 := l9) hX hd q1 q2 q3 q4 q5 q6 q7 q8 q9 q10 q11 q12 q13 q14 q15 q16 q17 q18 q19 q20 q21 q22 h ((30 - (0 : Int32).toInt).toNat + 1)) N y2 v125 v128 (0 : Int32) hG F0 (by omega) (by omega) (by omega) (by omega) (by omega) (by omega) (by omega) (by omega) (by omega) g5 g6 (by omega) (by omega) g9 (by omega) (by omega) (by omega) (x_nwl_x (by omega) g13) (fun k hk => by exfalso; omega) (by omega)
    · refine to_ln (pc := 19) rw_216_19 rfl rfl rfl (to_an (pc := 20) rw_216_20 rfl (s_gR (pc := 21) rw_216_21 hG rfl (v := 107) rfl (to_in (pc := 24) rw_216_24 rfl (s_ial (pc := 25) rw_216_25 hG rfl (n := 40) rfl rfl (A := a.toInt) rfl (by omega) (by omega) (lo := -2147483648) (hi := 2147483647) rfl rfl (fun v132 w_133 _ _ => to_i (pc := 26) rw_216_26 rfl (s_opE (pc := 28) rw_216_28 (w := v132 >>> x4) rfl (fun v134 e135 => to_c (pc := 29) rw_216_29 (x := (1 : Int32)) rfl rfl (s_and (pc := 30) rw_216_30 (B := 1) rfl (by omega) (fun v136 e137 _ _ => to_c (pc := 31) rw_216_31 (x := (1 : Int32)) rfl rfl (b_cne (pc := 32) rw_216_32 (A := v136.toInt) (B := 1) rfl rfl (fun h138 => ?_) (fun h138 => ?_)))))))))))
      · refine to_cl (pc := 45) rw_216_45 rfl (x := (0 : Int64)) rfl (to_2l (pc := 46) rw_216_46 (v := (y2 ||| (0 : Int64))) rfl (to_lsn (pc := 47) rw_216_47 (ls2 := [.ref 77, .int a, .long (y2 ||| (0 : Int64)), .null, .int x4, u5, u6]) rfl rfl (s_inc (pc := 48) rw_216_48 (ls2 := fun v => [.ref 77, .int a, .long (y2 ||| (0 : Int64)), .null, .int v, u5, u6]) rfl rfl (fun _ => rfl) (A := x4.toInt) (B := 1) rfl rfl (by omega) (fun v139 e140 => to_go (pc := 51) rw_216_51 ?_))))
        exact ih N (y2 ||| (0 : Int64)) v139 (u5) (u6) hG F0 (by omega) (by omega) (by omega) g4 g5 g6 (by omega) (by omega) g9 (by omega) (by omega) (by omega) (by have := x_nwl_s (by omega) (by omega) (by omega) (show x_nwl K.2.2.2 v132 (sg.2.2.1 - x4.toInt).toNat (x4.toInt).toNat y2 = nd9 from by rw [← w_133]; exact g13) (x_nwl_n (by omega) e135 e137 rfl (by omega)); rw [← w_133] at this; exact this) (by omega)
      · refine to_an (pc := 35) rw_216_35 rfl (s_gR (pc := 36) rw_216_36 hG rfl (v := 95) rfl (to_i (pc := 39) rw_216_39 rfl (s_lalE (pc := 41) rw_216_41 hG rfl (n := 12) rfl (A := x4.toInt) rfl (by omega) (by omega) (fun l141 w_142 => ?_))))
        have z_143 : l141 = K.2.2.2 (x4.toInt).toNat := KST_ld (K := K) g5 (by omega) (by omega) w_142
        refine to_go (pc := 42) rw_216_42 (to_2l (pc := 46) rw_216_46 (v := (y2 ||| l141)) rfl (to_lsn (pc := 47) rw_216_47 (ls2 := [.ref 77, .int a, .long (y2 ||| l141), .null, .int x4, u5, u6]) rfl rfl (s_inc (pc := 48) rw_216_48 (ls2 := fun v => [.ref 77, .int a, .long (y2 ||| l141), .null, .int v, u5, u6]) rfl rfl (fun _ => rfl) (A := x4.toInt) (B := 1) rfl rfl (by omega) (fun v144 e145 => to_go (pc := 51) rw_216_51 ?_))))
        exact ih N (y2 ||| l141) v144 (u5) (u6) hG F0 (by omega) (by omega) (by omega) g4 g5 g6 (by omega) (by omega) g9 (by omega) (by omega) (by omega) (by have := x_nwl_s (by omega) (by omega) (by omega) (show x_nwl K.2.2.2 v132 (sg.2.2.1 - x4.toInt).toNat (x4.toInt).toNat y2 = nd9 from by rw [← w_133]; exact g13) (x_nwl_y (by omega) e135 e137 rfl (by omega) z_143); rw [← w_133] at this; exact this) (by omega)
set_option maxRecDepth 4000 in
set_option maxHeartbeats 0 in
theorem E_216 {X : mm_X} {d : Nat} {M : mm_M} {Q : Option Value → mm_M → Prop} {a : Int32} {P9 : x_P} {sg : x_S} {K : x_Kn} {ca : Int} {ov : Int32} {ho : Int} {n9 : Int} {nd9 : Int64} {f9 : Int} {d9 : Int} {l9 : Int} (hX : g_X X) (hd : 2 ≤ d) (hG : g_G M) (q1 : 0 ≤ a.toInt) (q2 : a.toInt ≤ 39) (q3 : 0 ≤ f9) (q4 : f9 ≤ 5) (q5 : 0 ≤ d9) (q6 : d9 ≤ 5) (q7 : 0 ≤ l9) (q8 : l9 ≤ 5) (q9 : ca ≤ 30) (q10 : n9 ≤ 30) (q11 : (M.2.1 102 (a.toInt).toNat).toInt = f9) (q12 : (M.2.1 103 (a.toInt).toNat).toInt = d9) (q13 : (M.2.1 104 (a.toInt).toNat).toInt = l9) (q14 : (M.2.1 77 42).toInt ≤ 2999) (q15 : (M.2.1 77 11).toInt = ho) (q16 : M.2.1 77 41 = ov) (q17 : PLk M sg) (q18 : KST M 96 98 97 95 ca sg K) (q19 : PKr M P9) (q20 : x_pg P9 n9 ca) (q21 : ∀ i : Nat, x_on nd9 i = true → (i : Int) < ho) (q22 : x_nwl K.2.2.2 (M.2.1 107 (a.toInt).toNat) sg.2.2.1.toNat 0 (M.2.2.1 106 (a.toInt).toNat) = nd9) (h : ∀ (M1 : mm_M), g_G M1 → FR md_pa M M1 → (PKr M1 (x_dl P9 f9 d9 l9 (x_dt K ov ho nd9))) → ((M1.2.1 77 42).toInt = (M.2.1 77 42).toInt + 1) → Q (none) M1) : mm_T X d 215 0 [.ref 77, .int a, .null, .null, .null, .null, .null] [] M Q := by
  have F0 : FR md_pa M M := FR.rf
  have b_146 := g_b hG (a := 77) (i := 11) (lo := 10) (hi := 60) rfl rfl
  have b_147 := g_b hG (a := 77) (i := 13) (lo := 0) (hi := 12) rfl rfl
  have z_148 := x_pg_le (p := f9) q20 (by omega) (by omega)
  have z_149 := q17.2.2.2.1
  refine to_an (pc := 0) rw_216_0 rfl (s_gR (pc := 1) rw_216_1 hG rfl (v := 106) rfl (to_in (pc := 4) rw_216_4 rfl (s_lalE (pc := 5) rw_216_5 hG rfl (n := 40) rfl (A := a.toInt) rfl (by omega) (by omega) (fun l150 w_151 => to_lsn (pc := 6) rw_216_6 (ls2 := [.ref 77, .int a, .long l150, .null, .null, .null, .null]) rfl rfl (to_c (pc := 7) rw_216_7 (x := (0 : Int32)) rfl rfl (to_is (pc := 8) rw_216_8 (ls2 := [.ref 77, .int a, .long l150, .null, .int (0 : Int32), .null, .null]) rfl rfl ?_))))))
  have k_152 : (0 : Int32).toInt = 0 := rfl
  exact (U_216_2 (a := a) (P9 := P9) (sg := sg) (K := K) (ca := ca) (ov := ov) (ho := ho) (n9 := n9) (nd9 := nd9) (f9 := f9) (d9 := d9) (l9 := l9) hX hd q1 q2 q3 q4 q5 q6 q7 q8 q9 q10 q11 q12 q13 q14 q15 q16 q17 q18 q19 q20 q21 q22 h ((12 - (0 : Int32).toInt).toNat + 1)) M l150 (0 : Int32) (.null) (.null) hG F0 (by omega) (by omega) (by omega) q17 q18 q19 (by omega) (by omega) q16 (by omega) (by omega) (by omega) (x_nwl_0 (by omega) (by rw [← w_151]; exact q22)) (by omega)
set_option maxRecDepth 4000 in
set_option maxHeartbeats 0 in
theorem U_217_0 {X : mm_X} {d : Nat} {M : mm_M} {Q : Option Value → mm_M → Prop} {a : Int32} {P9 : x_P} {ca : Int} {n9 : Int} {o9 : Int} {t9 : Int} (hX : g_X X) (hd : 1 ≤ d) (q1 : 0 ≤ a.toInt) (q2 : a.toInt ≤ 39) (q3 : 0 ≤ o9) (q4 : o9 ≤ 5) (q5 : 0 ≤ t9) (q6 : t9 ≤ 5) (q7 : ¬ o9 = t9) (q8 : ca ≤ 30) (q9 : n9 ≤ 30) (q10 : (M.2.1 102 (a.toInt).toNat).toInt = o9) (q11 : (M.2.1 103 (a.toInt).toNat).toInt = t9) (q12 : PKr M P9) (q13 : x_pg P9 n9 ca) (h : ∀ (M1 : mm_M), g_G M1 → FR md_co M M1 → (PKr M1 (x_dl P9 o9 t9 t9 (fun _ => true))) → Q (none) M1) : ∀ nn9 : Nat, (∀ (N : mm_M) (x2 : Int32) (x3 : Int32), g_G N → FR md_co M N → (0 ≤ x3.toInt) → (x3.toInt ≤ 30) → (x3.toInt ≤ P9.2 o9) → (0 ≤ x2.toInt) → (x2.toInt ≤ 5) → (x2.toInt = o9) → ((N.2.1 102 (a.toInt).toNat).toInt = o9) → ((N.2.1 103 (a.toInt).toNat).toInt = t9) → (∃ P : x_P, PKr N P ∧ x_jn P9 P o9 t9 x3.toInt ca) → 30 - x3.toInt < (nn9 : Int) → mm_T X d 216 9 [.ref 77, .int a, .int x2, .int x3] [] N Q) := by
  intro nn9
  induction nn9 with
  | zero =>
    intro N x2 x3 hG F0 g1 g2 g3 g4 g5 g6 g7 g8 g9 hm
    exfalso; omega
  | succ nn9 ih =>
    intro N x2 x3 hG F0 g1 g2 g3 g4 g5 g6 g7 g8 g9 hm
    have z_1 := x_pg_le (p := o9) q13 (by omega) (by omega)
    have z_2 := x_pg_le (p := t9) q13 (by omega) (by omega)
    have z_3 := x_pg_2 (p := o9) (q := t9) q13 (by omega) (by omega) (by omega) (by omega) (by omega)
    obtain ⟨Pk, pk1, pk2⟩ := id g9
    have z_4 := (pk2.1 o9 (by omega)).1
    have z_5 := pk2.2.1
    refine to_in (pc := 9) rw_217_9 rfl (to_an (pc := 10) rw_217_10 rfl (s_gR (pc := 11) rw_217_11 hG rfl (v := 100) rfl (to_in (pc := 14) rw_217_14 rfl (s_ial (pc := 15) rw_217_15 hG rfl (n := 6) rfl rfl (A := x2.toInt) rfl (by omega) (by omega) (lo := 0) (hi := 30) rfl rfl (fun v6 w_7 _ _ => ?_)))))
    have z_8 := PKr_u (p := o9) pk1 (by omega) (by omega) (show N.2.1 100 (o9).toNat = v6 from by rw [show (o9).toNat = (x2.toInt).toNat by omega]; exact w_7)
    refine b_cge (pc := 16) rw_217_16 (A := x3.toInt) (B := v6.toInt) rfl rfl (fun h9 => ?_) (fun h9 => ?_)
    · refine to_an (pc := 46) rw_217_46 rfl (s_gR (pc := 47) rw_217_47 hG rfl (v := 100) rfl (to_in (pc := 50) rw_217_50 rfl (to_c (pc := 51) rw_217_51 (x := (0 : Int32)) rfl rfl (s_ias (pc := 52) rw_217_52 hG rfl (n := 6) rfl (A := x2.toInt) rfl (by omega) (by omega) (fun M11 W10 => ?_)))))
      have hG12 := g_w hG W10 (A := 0) rfl (lo := 0) (hi := 30) rfl rfl (by omega) (by decide)
      have F13 := FR.w F0 W10 (show 100 = 99 ∨ 100 = 100 by decide)
      refine to_rv (pc := 53) rw_217_53 ?_
      exact h M11 hG12 F13 (by rw [← x_jn_x pk2 (by omega)]; exact PKr_z pk1 (by omega) (by omega) W10 (by omega) rfl)
    · refine to_an (pc := 19) rw_217_19 rfl (to_an (pc := 20) rw_217_20 rfl (s_gR (pc := 21) rw_217_21 hG rfl (v := 103) rfl (to_in (pc := 24) rw_217_24 rfl (s_ial (pc := 25) rw_217_25 hG rfl (n := 40) rfl rfl (A := a.toInt) rfl (by omega) (by omega) (lo := -1) (hi := 5) rfl rfl (fun v14 w_15 _ _ => ?_)))))
      have t_16 := congrArg Int32.toInt w_15
      refine to_an (pc := 26) rw_217_26 rfl (s_gR (pc := 27) rw_217_27 hG rfl (v := 99) rfl (to_c (pc := 30) rw_217_30 (x := (30 : Int32)) rfl rfl (to_in (pc := 32) rw_217_32 rfl (s_mul (pc := 33) rw_217_33 (A := 30) (B := x2.toInt) rfl rfl (by omega) (fun v17 e18 => to_in (pc := 34) rw_217_34 rfl (s_add (pc := 35) rw_217_35 (A := v17.toInt) (B := x3.toInt) rfl rfl (by omega) (fun v19 e20 => s_ial (pc := 36) rw_217_36 hG rfl (n := 180) rfl rfl (A := v19.toInt) rfl (by omega) (by omega) (lo := 0) (hi := 29) rfl rfl (fun v21 w_22 _ _ => ?_))))))))
      have z_23 := (PKr_r (p := o9) (k := x3.toInt) (i := v19.toInt) pk1 (by omega) (by omega) (by omega) (by omega) (by omega) w_22).trans ((pk2.1 o9 (by omega)).2 _)
      have z_24 := (q13.2 o9 (by omega) (by omega)).2 (x3.toInt).toNat (by omega)
      refine s_v (pc := 37) rw_217_37 (dp0 hd (by decide)) (ls0 := [.ref 77, .int v14, .int v21]) rfl (Nat.le_of_ble_eq_true rfl) (Nat.le_of_ble_eq_true rfl) rfl (to_rc rfl rfl rfl (g_o hG rfl)) rfl ?_
      have z_25 := congrArg Pk.2 (show v14.toInt = t9 by omega)
      refine E_210 hX (dp1 hd (by decide)) hG (by omega) (by omega) (by omega) (by omega) pk1 (x_jn_g q13 pk2 (by omega) (by omega) (by omega) (by omega) (by omega) (by omega) (by omega)) (by omega) (p := v14) (c := v21) (P9 := Pk) (fun M29 hG27 F26 p_28 => ?_)
      have F30 := FR.c F0 F26 tg_149
      refine s_inc (pc := 40) rw_217_40 (ls2 := fun v => [.ref 77, .int a, .int x2, .int v]) rfl rfl (fun _ => rfl) (A := x3.toInt) (B := 1) rfl rfl (by omega) (fun v31 e32 => to_go (pc := 43) rw_217_43 ?_)
      have t_33 : (M29.2.1 102 (a.toInt).toNat).toInt = (N.2.1 102 (a.toInt).toNat).toInt := congrArg Int32.toInt (F_n F26 (show ¬ (102 = 99 ∨ 102 = 100) by decide) rfl)
      have t_34 : (M29.2.1 103 (a.toInt).toNat).toInt = (N.2.1 103 (a.toInt).toNat).toInt := congrArg Int32.toInt (F_n F26 (show ¬ (103 = 99 ∨ 103 = 100) by decide) rfl)
      exact ih M29 x2 v31 hG27 F30 (by omega) (by omega) (by omega) (by omega) (by omega) (by omega) (by omega) (by omega) ⟨_, PKr_q (show v14.toInt = t9 by omega) rfl p_28, x_jn_s pk2 (by omega) (by omega) (by omega) (by omega) z_23⟩ (by omega)
set_option maxRecDepth 4000 in
set_option maxHeartbeats 0 in
theorem E_217 {X : mm_X} {d : Nat} {M : mm_M} {Q : Option Value → mm_M → Prop} {a : Int32} {P9 : x_P} {ca : Int} {n9 : Int} {o9 : Int} {t9 : Int} (hX : g_X X) (hd : 1 ≤ d) (hG : g_G M) (q1 : 0 ≤ a.toInt) (q2 : a.toInt ≤ 39) (q3 : 0 ≤ o9) (q4 : o9 ≤ 5) (q5 : 0 ≤ t9) (q6 : t9 ≤ 5) (q7 : ¬ o9 = t9) (q8 : ca ≤ 30) (q9 : n9 ≤ 30) (q10 : (M.2.1 102 (a.toInt).toNat).toInt = o9) (q11 : (M.2.1 103 (a.toInt).toNat).toInt = t9) (q12 : PKr M P9) (q13 : x_pg P9 n9 ca) (h : ∀ (M1 : mm_M), g_G M1 → FR md_co M M1 → (PKr M1 (x_dl P9 o9 t9 t9 (fun _ => true))) → Q (none) M1) : mm_T X d 216 0 [.ref 77, .int a, .null, .null] [] M Q := by
  have F0 : FR md_co M M := FR.rf
  have z_35 := x_pg_le (p := o9) q13 (by omega) (by omega)
  have z_36 := x_pg_le (p := t9) q13 (by omega) (by omega)
  have z_37 := x_pg_2 (p := o9) (q := t9) q13 (by omega) (by omega) (by omega) (by omega) (by omega)
  refine to_an (pc := 0) rw_217_0 rfl (s_gR (pc := 1) rw_217_1 hG rfl (v := 102) rfl (to_in (pc := 4) rw_217_4 rfl (s_ial (pc := 5) rw_217_5 hG rfl (n := 40) rfl rfl (A := a.toInt) rfl (by omega) (by omega) (lo := -1) (hi := 99) rfl rfl (fun v38 w_39 _ _ => ?_))))
  have t_40 := congrArg Int32.toInt w_39
  refine to_isn (pc := 6) rw_217_6 (ls2 := [.ref 77, .int a, .int v38, .null]) rfl rfl (to_c (pc := 7) rw_217_7 (x := (0 : Int32)) rfl rfl (to_isn (pc := 8) rw_217_8 (ls2 := [.ref 77, .int a, .int v38, .int (0 : Int32)]) rfl rfl ?_))
  have k_41 : (0 : Int32).toInt = 0 := rfl
  exact (U_217_0 (a := a) (P9 := P9) (ca := ca) (n9 := n9) (o9 := o9) (t9 := t9) hX hd q1 q2 q3 q4 q5 q6 q7 q8 q9 q10 q11 q12 q13 h ((30 - (0 : Int32).toInt).toNat + 1)) M v38 (0 : Int32) hG F0 (by omega) (by omega) (by omega) (by omega) (by omega) (by omega) (by omega) (by omega) ⟨P9, q12, x_jn_0 (ca := ca) (by omega)⟩ (by omega)
