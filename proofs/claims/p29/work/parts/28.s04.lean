set_option maxRecDepth 4000 in
set_option maxHeartbeats 0 in
theorem E_206 {X : mm_X} {d : Nat} {M : mm_M} {Q : Option Value → mm_M → Prop} {p : Int32} {k : Int32} {P9 : x_P} (hX : g_X X) (hd : 1 ≤ d) (hG : g_G M) (q1 : PKr M P9) (h : ∀ (r : Int32) (M1 : mm_M), g_G M1 → FR md_2 M M1 → (r.toInt = x_packv P9 p.toInt k.toInt) → Q (some (.int r)) M1) : mm_T X d 205 0 [.ref 77, .int p, .int k] [] M Q := by
  have F0 : FR md_2 M M := FR.rf
  refine to_an (pc := 0) rw_206_0 rfl (to_c (pc := 1) rw_206_1 (x := (0 : Int32)) rfl rfl (s_pI (pc := 2) rw_206_2 hG rfl (fun M2 W1 => ?_)))
  have hG3 := g_wf hG W1 rfl rfl (by decide)
  have F4 := FR.w F0 W1 (show 77 = 77 ∧ 2 = 2 by decide)
  refine to_in (pc := 5) rw_206_5 rfl (s_s (pc := 6) rw_206_6 (dp0 hd (by decide)) (ls0 := [.int p]) rfl (Nat.le_of_ble_eq_true rfl) (Nat.le_of_ble_eq_true rfl) rfl (to_rcs rfl rfl) rfl (to_in (pc := 0) rw_205_0 rfl (b_ilt (pc := 1) rw_205_1 (A := p.toInt) rfl (fun h5 => ?_) (fun h5 => ?_))))
  · refine to_c (pc := 14) rw_205_14 (x := (0 : Int32)) rfl rfl (s_r1 (pc := 15) rw_205_15 (A := 0) rfl (by decide) (b_ieq_t (pc := 9) rw_206_9 (A := 0) rfl (by decide) (to_c (pc := 40) rw_206_40 (x := (-1 : Int32)) rfl rfl (to_r0 (pc := 41) rw_206_41 ?_))))
    have k_6 : (-1 : Int32).toInt = -1 := rfl
    have z_7 := x_packv_n (P := P9) (p := p.toInt) (k := k.toInt) (v := -1) (by omega) rfl
    exact h (-1 : Int32) M2 hG3 F4 (by omega)
  · refine to_in (pc := 4) rw_205_4 rfl (to_c (pc := 5) rw_205_5 (x := (6 : Int32)) rfl rfl (b_cge (pc := 7) rw_205_7 (A := p.toInt) (B := 6) rfl rfl (fun h8 => ?_) (fun h8 => ?_)))
    · refine to_c (pc := 14) rw_205_14 (x := (0 : Int32)) rfl rfl (s_r1 (pc := 15) rw_205_15 (A := 0) rfl (by decide) (b_ieq_t (pc := 9) rw_206_9 (A := 0) rfl (by decide) (to_c (pc := 40) rw_206_40 (x := (-1 : Int32)) rfl rfl (to_r0 (pc := 41) rw_206_41 ?_))))
      have k_9 : (-1 : Int32).toInt = -1 := rfl
      have z_10 := x_packv_n (P := P9) (p := p.toInt) (k := k.toInt) (v := -1) (by omega) rfl
      exact h (-1 : Int32) M2 hG3 F4 (by omega)
    · refine to_c (pc := 10) rw_205_10 (x := (1 : Int32)) rfl rfl (to_go (pc := 11) rw_205_11 (s_r1 (pc := 15) rw_205_15 (A := 1) rfl (by decide) (b_ieq_f (pc := 9) rw_206_9 (A := 1) rfl (by decide) (to_in (pc := 12) rw_206_12 rfl (b_ilt (pc := 13) rw_206_13 (A := k.toInt) rfl (fun h11 => ?_) (fun h11 => ?_))))))
      · refine to_c (pc := 40) rw_206_40 (x := (-1 : Int32)) rfl rfl (to_r0 (pc := 41) rw_206_41 ?_)
        have k_12 : (-1 : Int32).toInt = -1 := rfl
        have z_13 := x_packv_n (P := P9) (p := p.toInt) (k := k.toInt) (v := -1) (by omega) rfl
        exact h (-1 : Int32) M2 hG3 F4 (by omega)
      · refine to_in (pc := 16) rw_206_16 rfl (to_an (pc := 17) rw_206_17 rfl (s_gR (pc := 18) rw_206_18 hG3 rfl (v := 100) rfl (to_in (pc := 21) rw_206_21 rfl (s_ial (pc := 22) rw_206_22 hG3 rfl (n := 6) rfl rfl (A := p.toInt) rfl (by omega) (by omega) (lo := 0) (hi := 30) rfl rfl (fun v14 w_15 _ _ => ?_)))))
        have j_16 := (PKr_f (fun a i z => W_n W1 (by /-r77,2-/ omega) rfl) q1)
        have z_17 := PKr_u (p := p.toInt) j_16 (by omega) (by omega) w_15
        refine b_cge (pc := 23) rw_206_23 (A := k.toInt) (B := v14.toInt) rfl rfl (fun h18 => ?_) (fun h18 => ?_)
        · refine to_c (pc := 40) rw_206_40 (x := (-1 : Int32)) rfl rfl (to_r0 (pc := 41) rw_206_41 ?_)
          have k_19 : (-1 : Int32).toInt = -1 := rfl
          have z_20 := x_packv_n (P := P9) (p := p.toInt) (k := k.toInt) (v := -1) (by omega) rfl
          exact h (-1 : Int32) M2 hG3 F4 (by omega)
        · refine to_an (pc := 26) rw_206_26 rfl (s_gR (pc := 27) rw_206_27 hG3 rfl (v := 99) rfl (to_c (pc := 30) rw_206_30 (x := (30 : Int32)) rfl rfl (to_in (pc := 32) rw_206_32 rfl (s_mul (pc := 33) rw_206_33 (A := 30) (B := p.toInt) rfl rfl (by omega) (fun v21 e22 => to_in (pc := 34) rw_206_34 rfl (s_add (pc := 35) rw_206_35 (A := v21.toInt) (B := k.toInt) rfl rfl (by omega) (fun v23 e24 => s_ial (pc := 36) rw_206_36 hG3 rfl (n := 180) rfl rfl (A := v23.toInt) rfl (by omega) (by omega) (lo := 0) (hi := 29) rfl rfl (fun v25 w_26 _ _ => ?_))))))))
          have z_27 := PKr_r (p := p.toInt) (k := k.toInt) (i := v23.toInt) j_16 (by omega) (by omega) (by omega) (by omega) (by omega) w_26
          refine to_go (pc := 37) rw_206_37 (to_r0 (pc := 41) rw_206_41 ?_)
          have z_28 := x_packv_y (P := P9) (p := p.toInt) (k := k.toInt) (by omega) z_27
          exact h v25 M2 hG3 F4 (by omega)
set_option maxRecDepth 4000 in
set_option maxHeartbeats 0 in
theorem E_193 {X : mm_X} {d : Nat} {M : mm_M} {Q : Option Value → mm_M → Prop} {P9 : x_P} {ca : Int} {n9 : Int} (hX : g_X X) (hd : 0 ≤ d) (hG : g_G M) (q1 : PKr M P9) (q2 : x_pg P9 n9 ca) (q3 : n9 ≤ 30) (q4 : (M.2.1 77 28).toInt = n9) (h : ∀ (r : Int32) (M1 : mm_M), g_G M1 → FR md_cd M M1 → (n9 < 30 → PKr M1 (x_ap9 P9 0 n9)) → (30 ≤ n9 → PKr M1 P9) → Q (some (.int r)) M1) : mm_T X d 192 0 [.ref 77] [] M Q := by
  have F0 : FR md_cd M M := FR.rf
  have b_1 := g_b hG (a := 77) (i := 28) (lo := 0) (hi := 30) rfl rfl
  have z_2 := x_pg_le (p := 0) q2 (by decide) (by decide)
  refine to_an (pc := 0) rw_193_0 rfl (to_c (pc := 1) rw_193_1 (x := (0 : Int32)) rfl rfl (s_pI (pc := 2) rw_193_2 hG rfl (fun M4 W3 => ?_)))
  have hG5 := g_wf hG W3 rfl rfl (by decide)
  have F6 := FR.w F0 W3 (show 77 = 77 ∧ (2 = 2 ∨ 2 = 28) ∨ 77 = 99 ∨ 77 = 100 by decide)
  refine to_an (pc := 5) rw_193_5 rfl ?_
  have c_7 : M4.2.1 77 28 = (M.2.1 77 28) := (W_n W3 (by decide) rfl)
  refine tt_gI (pc := 6) rw_193_6 (g_o hG5 rfl) (v := (M.2.1 77 28)) c_7 (to_c (pc := 9) rw_193_9 (x := (30 : Int32)) rfl rfl (b_cne (pc := 11) rw_193_11 (A := (M.2.1 77 28).toInt) (B := 30) rfl rfl (fun h8 => ?_) (fun h8 => ?_)))
  · refine to_an (pc := 16) rw_193_16 rfl (s_gR (pc := 17) rw_193_17 hG5 rfl (v := 99) rfl (to_an (pc := 20) rw_193_20 rfl (s_gR (pc := 21) rw_193_21 hG5 rfl (v := 100) rfl (to_c (pc := 24) rw_193_24 (x := (0 : Int32)) rfl rfl (s_ial (pc := 25) rw_193_25 hG5 rfl (n := 6) rfl rfl (A := 0) rfl (by omega) (by omega) (lo := 0) (hi := 30) rfl rfl (fun v9 w_10 _ _ => ?_))))))
    have j_11 := (PKr_f (fun a i z => W_n W3 (by /-r77,2-/ omega) rfl) q1)
    have z_12 := PKr_u (p := 0) j_11 (by decide) (by decide) w_10
    refine to_an (pc := 26) rw_193_26 rfl (tt_gI (pc := 27) rw_193_27 (g_o hG5 rfl) (v := (M.2.1 77 28)) c_7 (s_ias (pc := 30) rw_193_30 hG5 rfl (n := 180) rfl (A := v9.toInt) rfl (by omega) (by omega) (fun M14 W13 => ?_)))
    have hG15 := g_w hG5 W13 (A := (M.2.1 77 28).toInt) rfl (lo := 0) (hi := 29) rfl rfl (by omega) (by decide)
    have F16 := FR.w F6 W13 (show 99 = 77 ∧ ((v9.toInt).toNat = 2 ∨ (v9.toInt).toNat = 28) ∨ 99 = 99 ∨ 99 = 100 by omega)
    refine to_an (pc := 31) rw_193_31 rfl (s_gR (pc := 32) rw_193_32 hG15 rfl (v := 100) rfl (to_c (pc := 35) rw_193_35 (x := (0 : Int32)) rfl rfl (to_dup2 (pc := 36) rw_193_36 (s_ialk (pc := 37) rw_193_37 hG15 rfl (n := 6) rfl rfl (A := 0) rfl (by omega) (by omega) (v := v9) (W_n W13 (by omega) w_10) (to_c (pc := 38) rw_193_38 (x := (1 : Int32)) rfl rfl (s_add (pc := 39) rw_193_39 (A := v9.toInt) (B := 1) rfl rfl (by omega) (fun v19 e20 => s_ias (pc := 40) rw_193_40 hG15 rfl (n := 6) rfl (A := 0) rfl (by omega) (by omega) (fun M22 W21 => ?_))))))))
    have hG23 := g_w hG15 W21 (A := v19.toInt) rfl (lo := 0) (hi := 30) rfl rfl (by omega) (by decide)
    have F24 := FR.w F16 W21 (show 100 = 77 ∧ ((0 : Int).toNat = 2 ∨ (0 : Int).toNat = 28) ∨ 100 = 99 ∨ 100 = 100 by omega)
    refine to_an (pc := 41) rw_193_41 rfl (to_dupr (pc := 42) rw_193_42 ?_)
    have c_25 : M22.2.1 77 28 = (M.2.1 77 28) := (W_n W21 (fun z => absurd z.1 (by decide)) (W_n W13 (fun z => absurd z.1 (by decide)) c_7))
    refine tt_gI (pc := 43) rw_193_43 (g_o hG23 rfl) (v := (M.2.1 77 28)) c_25 (to_c (pc := 46) rw_193_46 (x := (1 : Int32)) rfl rfl (s_add (pc := 47) rw_193_47 (A := (M.2.1 77 28).toInt) (B := 1) rfl rfl (by omega) (fun v26 e27 => s_pI (pc := 48) rw_193_48 hG23 rfl (fun M29 W28 => ?_))))
    have hG30 := g_w hG23 W28 (A := v26.toInt) rfl (lo := 0) (hi := 30) rfl rfl (by omega) (by decide)
    have F31 := FR.w F24 W28 (show 77 = 77 ∧ (28 = 2 ∨ 28 = 28) ∨ 77 = 99 ∨ 77 = 100 by decide)
    refine to_an (pc := 51) rw_193_51 rfl ?_
    have c_32 : M29.2.1 77 28 = v26 := (W_e W28)
    refine tt_gI (pc := 52) rw_193_52 (g_o hG30 rfl) (v := v26) c_32 (to_c (pc := 55) rw_193_55 (x := (1 : Int32)) rfl rfl (s_sub (pc := 56) rw_193_56 (A := v26.toInt) (B := 1) rfl rfl (by omega) (fun v33 e34 => to_r0 (pc := 57) rw_193_57 ?_)))
    exact h v33 M29 hG30 F31 (fun _ => PKr_q rfl (by omega) (PKr_f (fun a i z => (W_n W28 (by /-r77,28-/ omega) rfl)) (PKr_a (p := 0) j_11 (fun q q0 q1 => by have := x_pg_le q2 q0 q1; omega) (by decide) (by decide) (by omega) W13 W21 (by omega) rfl rfl (by omega)))) (fun _ => by exfalso; omega)
  · refine to_c (pc := 14) rw_193_14 (x := (-1 : Int32)) rfl rfl (to_r0 (pc := 15) rw_193_15 ?_)
    have k_35 : (-1 : Int32).toInt = -1 := rfl
    have j_36 := (PKr_f (fun a i z => W_n W3 (by /-r77,2-/ omega) rfl) q1)
    exact h (-1 : Int32) M4 hG5 F6 (fun _ => by exfalso; omega) (fun _ => j_36)
set_option maxRecDepth 4000 in
set_option maxHeartbeats 0 in
theorem U_209_0 {X : mm_X} {d : Nat} {M : mm_M} {Q : Option Value → mm_M → Prop} (hX : g_X X) (hd : 0 ≤ d) (h : ∀ (r : Int32) (M1 : mm_M), g_G M1 → FR md_ga M M1 → (PKr M1 (x_ga (M.2.1 77 28).toInt)) → Q (some (.int r)) M1) : ∀ nn9 : Nat, (∀ (N : mm_M) (x1 : Int32), g_G N → FR md_ga M N → (0 ≤ x1.toInt) → (x1.toInt ≤ 30) → (x1.toInt ≤ (N.2.1 77 28).toInt) → ((N.2.1 77 28).toInt = (M.2.1 77 28).toInt) → (∀ j : Nat, j < 6 → N.2.1 100 j = 0) → (∀ j : Nat, (j : Int) < x1.toInt → (N.2.1 99 j).toInt = (j : Int)) → 30 - x1.toInt < (nn9 : Int) → mm_T X d 208 28 [.ref 77, .int x1] [] N Q) := by
  intro nn9
  induction nn9 with
  | zero =>
    intro N x1 hG F0 g1 g2 g3 g4 g5 g6 hm
    have b_1 := g_b hG (a := 77) (i := 28) (lo := 0) (hi := 30) rfl rfl
    exfalso; omega
  | succ nn9 ih =>
    intro N x1 hG F0 g1 g2 g3 g4 g5 g6 hm
    have b_2 := g_b hG (a := 77) (i := 28) (lo := 0) (hi := 30) rfl rfl
    refine to_in (pc := 28) rw_209_28 rfl (to_an (pc := 29) rw_209_29 rfl (tt_gI (pc := 30) rw_209_30 (g_o hG rfl) (v := (N.2.1 77 28)) rfl (b_cge (pc := 33) rw_209_33 (A := x1.toInt) (B := (N.2.1 77 28).toInt) rfl rfl (fun h3 => ?_) (fun h3 => ?_))))
    · refine to_an (pc := 49) rw_209_49 rfl (s_gR (pc := 50) rw_209_50 hG rfl (v := 100) rfl (to_c (pc := 53) rw_209_53 (x := (0 : Int32)) rfl rfl (to_an (pc := 54) rw_209_54 rfl (tt_gI (pc := 55) rw_209_55 (g_o hG rfl) (v := (N.2.1 77 28)) rfl (s_ias (pc := 58) rw_209_58 hG rfl (n := 6) rfl (A := 0) rfl (by omega) (by omega) (fun M5 W4 => ?_))))))
      have hG6 := g_w hG W4 (A := (N.2.1 77 28).toInt) rfl (lo := 0) (hi := 30) rfl rfl (by omega) (by decide)
      have F7 := FR.w F0 W4 (show 100 = 77 ∧ ((0 : Int).toNat = 2 ∨ (0 : Int).toNat = 41) ∨ 100 = 99 ∨ 100 = 100 by omega)
      refine to_an (pc := 59) rw_209_59 rfl (to_c (pc := 60) rw_209_60 (x := (0 : Int32)) rfl rfl (s_pI (pc := 61) rw_209_61 hG6 rfl (fun M9 W8 => ?_)))
      have hG10 := g_wf hG6 W8 rfl rfl (by decide)
      have F11 := FR.w F7 W8 (show 77 = 77 ∧ (41 = 2 ∨ 41 = 41) ∨ 77 = 99 ∨ 77 = 100 by decide)
      refine to_an (pc := 64) rw_209_64 rfl ?_
      have c_12 : M9.2.1 77 28 = (N.2.1 77 28) := (W_n W8 (by decide) (W_n W4 (fun z => absurd z.1 (by decide)) rfl))
      refine tt_gI (pc := 65) rw_209_65 (g_o hG10 rfl) (v := (N.2.1 77 28)) c_12 (to_r0 (pc := 68) rw_209_68 ?_)
      exact h (N.2.1 77 28) M9 hG10 F11 (PKr_f (fun a i z => (W_n W8 (by /-r77,41-/ omega) rfl)) (PKr_ga g5 (fun j hj => g6 j (by omega)) W4 (by omega)))
    · refine to_an (pc := 36) rw_209_36 rfl (s_gR (pc := 37) rw_209_37 hG rfl (v := 99) rfl (to_in (pc := 40) rw_209_40 rfl (to_in (pc := 41) rw_209_41 rfl (s_ias (pc := 42) rw_209_42 hG rfl (n := 180) rfl (A := x1.toInt) rfl (by omega) (by omega) (fun M14 W13 => ?_)))))
      have hG15 := g_w hG W13 (A := x1.toInt) rfl (lo := 0) (hi := 29) rfl rfl (by omega) (by decide)
      have F16 := FR.w F0 W13 (show 99 = 77 ∧ ((x1.toInt).toNat = 2 ∨ (x1.toInt).toNat = 41) ∨ 99 = 99 ∨ 99 = 100 by omega)
      refine s_inc (pc := 43) rw_209_43 (ls2 := fun v => [.ref 77, .int v]) rfl rfl (fun _ => rfl) (A := x1.toInt) (B := 1) rfl rfl (by omega) (fun v17 e18 => to_go (pc := 46) rw_209_46 ?_)
      have c_19 : M14.2.1 77 28 = (N.2.1 77 28) := (W_n W13 (fun z => absurd z.1 (by decide)) rfl)
      have t_20 : (M14.2.1 77 28).toInt = (N.2.1 77 28).toInt := congrArg Int32.toInt c_19
      exact ih M14 v17 hG15 F16 (by omega) (by omega) (by omega) (by omega) (fun j hj => by rw [show M14.2.1 100 j = N.2.1 100 j from (W_n W13 (by omega) rfl)]; exact g5 j hj) (rr_s g6 (by omega) W13 rfl rfl (by omega)) (by omega)
set_option maxRecDepth 4000 in
set_option maxHeartbeats 0 in
theorem U_209_1 {X : mm_X} {d : Nat} {M : mm_M} {Q : Option Value → mm_M → Prop} (hX : g_X X) (hd : 0 ≤ d) (h : ∀ (r : Int32) (M1 : mm_M), g_G M1 → FR md_ga M M1 → (PKr M1 (x_ga (M.2.1 77 28).toInt)) → Q (some (.int r)) M1) : ∀ nn9 : Nat, (∀ (N : mm_M) (x1 : Int32), g_G N → FR md_ga M N → (0 ≤ x1.toInt) → (x1.toInt ≤ 6) → (∀ j : Nat, j < (x1.toInt).toNat → N.2.1 100 j = 0) → ((N.2.1 77 28).toInt = (M.2.1 77 28).toInt) → 6 - x1.toInt < (nn9 : Int) → mm_T X d 208 7 [.ref 77, .int x1] [] N Q) := by
  intro nn9
  induction nn9 with
  | zero =>
    intro N x1 hG F0 g1 g2 g3 g4 hm
    have b_21 := g_b hG (a := 77) (i := 28) (lo := 0) (hi := 30) rfl rfl
    exfalso; omega
  | succ nn9 ih =>
    intro N x1 hG F0 g1 g2 g3 g4 hm
    have b_22 := g_b hG (a := 77) (i := 28) (lo := 0) (hi := 30) rfl rfl
    refine to_in (pc := 7) rw_209_7 rfl (to_c (pc := 8) rw_209_8 (x := (6 : Int32)) rfl rfl (b_cge (pc := 10) rw_209_10 (A := x1.toInt) (B := 6) rfl rfl (fun h23 => ?_) (fun h23 => ?_)))
    · refine to_c (pc := 26) rw_209_26 (x := (0 : Int32)) rfl rfl (to_isn (pc := 27) rw_209_27 (ls2 := [.ref 77, .int (0 : Int32)]) rfl rfl ?_)
      have k_24 : (0 : Int32).toInt = 0 := rfl
      exact (U_209_0 hX hd  h ((30 - (0 : Int32).toInt).toNat + 1)) N (0 : Int32) hG F0 (by omega) (by omega) (by omega) (by omega) (fun j hj => g3 j (by omega)) (fun j hj => by exfalso; omega) (by omega)
    · refine to_an (pc := 13) rw_209_13 rfl (s_gR (pc := 14) rw_209_14 hG rfl (v := 100) rfl (to_in (pc := 17) rw_209_17 rfl (to_c (pc := 18) rw_209_18 (x := (0 : Int32)) rfl rfl (s_ias (pc := 19) rw_209_19 hG rfl (n := 6) rfl (A := x1.toInt) rfl (by omega) (by omega) (fun M26 W25 => ?_)))))
      have hG27 := g_w hG W25 (A := 0) rfl (lo := 0) (hi := 30) rfl rfl (by omega) (by decide)
      have F28 := FR.w F0 W25 (show 100 = 77 ∧ ((x1.toInt).toNat = 2 ∨ (x1.toInt).toNat = 41) ∨ 100 = 99 ∨ 100 = 100 by omega)
      refine s_inc (pc := 20) rw_209_20 (ls2 := fun v => [.ref 77, .int v]) rfl rfl (fun _ => rfl) (A := x1.toInt) (B := 1) rfl rfl (by omega) (fun v29 e30 => to_go (pc := 23) rw_209_23 ?_)
      have c_31 : M26.2.1 77 28 = (N.2.1 77 28) := (W_n W25 (fun z => absurd z.1 (by decide)) rfl)
      have t_32 : (M26.2.1 77 28).toInt = (N.2.1 77 28).toInt := congrArg Int32.toInt c_31
      exact ih M26 v29 hG27 F28 (by omega) (by omega) (zr_s g3 (by omega) W25 rfl rfl (by omega)) (by omega) (by omega)
set_option maxRecDepth 4000 in
set_option maxHeartbeats 0 in
theorem E_209 {X : mm_X} {d : Nat} {M : mm_M} {Q : Option Value → mm_M → Prop} (hX : g_X X) (hd : 0 ≤ d) (hG : g_G M) (h : ∀ (r : Int32) (M1 : mm_M), g_G M1 → FR md_ga M M1 → (PKr M1 (x_ga (M.2.1 77 28).toInt)) → Q (some (.int r)) M1) : mm_T X d 208 0 [.ref 77, .null] [] M Q := by
  have F0 : FR md_ga M M := FR.rf
  have b_33 := g_b hG (a := 77) (i := 28) (lo := 0) (hi := 30) rfl rfl
  refine to_an (pc := 0) rw_209_0 rfl (to_c (pc := 1) rw_209_1 (x := (0 : Int32)) rfl rfl (s_pI (pc := 2) rw_209_2 hG rfl (fun M35 W34 => ?_)))
  have hG36 := g_wf hG W34 rfl rfl (by decide)
  have F37 := FR.w F0 W34 (show 77 = 77 ∧ (2 = 2 ∨ 2 = 41) ∨ 77 = 99 ∨ 77 = 100 by decide)
  refine to_c (pc := 5) rw_209_5 (x := (0 : Int32)) rfl rfl (to_isn (pc := 6) rw_209_6 (ls2 := [.ref 77, .int (0 : Int32)]) rfl rfl ?_)
  have k_38 : (0 : Int32).toInt = 0 := rfl
  have c_39 : M35.2.1 77 28 = (M.2.1 77 28) := (W_n W34 (by decide) rfl)
  have t_40 : (M35.2.1 77 28).toInt = (M.2.1 77 28).toInt := congrArg Int32.toInt c_39
  exact (U_209_1 hX hd  h ((6 - (0 : Int32).toInt).toNat + 1)) M35 (0 : Int32) hG36 F37 (by omega) (by omega) (zr_0 (by first | omega | decide)) (by omega) (by omega)
set_option maxRecDepth 4000 in
set_option maxHeartbeats 0 in
theorem U_208_0 {X : mm_X} {d : Nat} {M : mm_M} {Q : Option Value → mm_M → Prop} {p : Int32} {x : Int64} {sg : x_S} {NN : x_N} {nz : Int} {ca : Int} {P9 : x_P} {ov : Int32} {n9 : Int} (hX : g_X X) (hd : 3 ≤ d) (q1 : x_vn sg ca NN nz) (q2 : ca ≤ 30) (q3 : (M.2.1 77 29).toInt = nz) (q4 : (M.2.1 77 28).toInt = ca) (q5 : CWk M sg) (q6 : FA M) (q7 : PLk M sg) (q8 : W8 M) (q9 : NTr M NN nz) (q10 : PKr M P9) (q11 : x_pg P9 n9 ca) (q12 : n9 ≤ 30) (q13 : M.2.1 77 41 = ov) (h : ∀ (r : Int32) (M1 : mm_M), g_G M1 → FR md_k2 M M1 → (r = x_drops P9 (x_kn sg NN nz.toNat) ov sg.1 x p.toInt) → Q (some (.int r)) M1) : ∀ nn9 : Nat, (∀ (N : mm_M) (x4 : Int32) (x5 : Int32), g_G N → FR md_k2 M N → (0 ≤ x5.toInt) → (x5.toInt ≤ 30) → (0 ≤ p.toInt) → (p.toInt ≤ 5) → (x5.toInt ≤ P9.2 p.toInt) → (PKr N P9) → (PLk N sg) → (KST N 96 98 97 95 ca sg (x_kn sg NN nz.toNat)) → (N.2.1 77 41 = ov) → (x_dpl (P9.1 p.toInt) (x_dt (x_kn sg NN nz.toNat) ov sg.1 x) (P9.2 p.toInt - x5.toInt).toNat (x5.toInt).toNat x4 = x_dpl (P9.1 p.toInt) (x_dt (x_kn sg NN nz.toNat) ov sg.1 x) (P9.2 p.toInt).toNat 0 0) → 30 - x5.toInt < (nn9 : Int) → mm_T X d 207 28 [.ref 77, .int p, .long x, .null, .int x4, .int x5] [] N Q) := by
  intro nn9
  induction nn9 with
  | zero =>
    intro N x4 x5 hG F0 g1 g2 g3 g4 g5 g6 g7 g8 g9 g10 hm
    exfalso; omega
  | succ nn9 ih =>
    intro N x4 x5 hG F0 g1 g2 g3 g4 g5 g6 g7 g8 g9 g10 hm
    have z_1 := g7.2.1
    have z_2 := g7.2.2.1
    have z_3 := g7.2.2.2.1
    have z_4 := g7.1
    have z_5 := z_4.1
    have z_6 := z_4.2.1
    have z_7 := z_4.2.2.1
    have z_8 := z_4.2.2.2.1
    have z_9 := z_4.2.2.2.2.1
    have z_10 := z_4.2.2.2.2.2.1
    have b_11 := g_b hG (a := 77) (i := 11) (lo := 10) (hi := 60) rfl rfl
    have b_12 := g_b hG (a := 77) (i := 12) (lo := 0) (hi := 8) rfl rfl
    have b_13 := g_b hG (a := 77) (i := 13) (lo := 0) (hi := 12) rfl rfl
    have b_14 := g_b hG (a := 77) (i := 28) (lo := 0) (hi := 30) rfl rfl
    have b_15 := g_b hG (a := 77) (i := 29) (lo := 0) (hi := 150) rfl rfl
    have z_16 := x_pg_le (p := p.toInt) q11 (by omega) (by omega)
    refine to_i (pc := 28) rw_208_28 rfl (to_an (pc := 30) rw_208_30 rfl (s_gR (pc := 31) rw_208_31 hG rfl (v := 100) rfl (to_in (pc := 34) rw_208_34 rfl (s_ial (pc := 35) rw_208_35 hG rfl (n := 6) rfl rfl (A := p.toInt) rfl (by omega) (by omega) (lo := 0) (hi := 30) rfl rfl (fun v17 w_18 _ _ => ?_)))))
    have z_19 := PKr_u (p := p.toInt) g6 (by omega) (by omega) w_18
    refine b_cge (pc := 36) rw_208_36 (A := x5.toInt) (B := v17.toInt) rfl rfl (fun h20 => ?_) (fun h20 => ?_)
    · refine to_i (pc := 88) rw_208_88 rfl (to_r0 (pc := 90) rw_208_90 ?_)
      exact h x4 N hG F0 (x_drops_r (by omega) (x_dpl_x (by omega) g10))
    · refine to_i (pc := 39) rw_208_39 rfl (to_an (pc := 41) rw_208_41 rfl (to_an (pc := 42) rw_208_42 rfl (s_gR (pc := 43) rw_208_43 hG rfl (v := 99) rfl (to_c (pc := 46) rw_208_46 (x := (30 : Int32)) rfl rfl (to_in (pc := 48) rw_208_48 rfl (s_mul (pc := 49) rw_208_49 (A := 30) (B := p.toInt) rfl rfl (by omega) (fun v21 e22 => to_i (pc := 50) rw_208_50 rfl (s_add (pc := 52) rw_208_52 (A := v21.toInt) (B := x5.toInt) rfl rfl (by omega) (fun v23 e24 => s_ial (pc := 53) rw_208_53 hG rfl (n := 180) rfl rfl (A := v23.toInt) rfl (by omega) (by omega) (lo := 0) (hi := 29) rfl rfl (fun v25 w_26 _ _ => ?_))))))))))
      have z_27 := PKr_r (p := p.toInt) (k := x5.toInt) (i := v23.toInt) g6 (by omega) (by omega) (by omega) (by omega) (by omega) w_26
      have z_28 := (q11.2 p.toInt (by omega) (by omega)).2 (x5.toInt).toNat (by omega)
      refine to_ln (pc := 54) rw_208_54 rfl rfl rfl (s_v (pc := 55) rw_208_55 (dp0 hd (by decide)) (ls0 := [.ref 77, .int v25, .long x, .null, .null]) rfl (Nat.le_of_ble_eq_true rfl) (Nat.le_of_ble_eq_true rfl) rfl (to_rc rfl rfl rfl (g_o hG rfl)) rfl (E_207 hX (dp1 hd (by decide)) hG (by omega) (by omega) (by omega) g8 (c := v25) (x := x) (sg := sg) (ca := ca) (K := (x_kn sg NN nz.toNat)) (fun r29 M35 hG31 F30 p_32 p_33 p_34 => ?_)))
      have F36 := FR.c F0 F30 tg_138
      have c_37 : M35.2.1 77 11 = (N.2.1 77 11) := (F_n F30 (show ¬ (77 < 0) by decide) rfl)
      have t_38 : (M35.2.1 77 11).toInt = (N.2.1 77 11).toInt := congrArg Int32.toInt c_37
      have z_39 := fa_q (ho := sg.1) p_34 (((F_n F30 (show ¬ (77 < 0) by decide) rfl)).trans g9) (by omega)
      refine b_ieq (pc := 58) rw_208_58 (A := r29.toInt) rfl (fun h40 => ?_) (fun h40 => ?_)
      · refine to_c (pc := 78) rw_208_78 (x := (0 : Int32)) rfl rfl (s_opE (pc := 79) rw_208_79 (w := x4 ||| (0 : Int32)) rfl (fun v41 e42 => to_is (pc := 80) rw_208_80 (ls2 := [.ref 77, .int p, .long x, .null, .int v41, .int x5]) rfl rfl (s_inc (pc := 82) rw_208_82 (ls2 := fun v => [.ref 77, .int p, .long x, .null, .int v41, .int v]) rfl rfl (fun _ => rfl) (A := x5.toInt) (B := 1) rfl rfl (by omega) (fun v43 e44 => to_go (pc := 85) rw_208_85 ?_))))
        have j_45 := (PKr_f (fun a i z => F_n F30 (show ¬ (a < 0) by omega) rfl) g6)
        have j_46 := (PLk_f (tg_101 F30) g7)
        have kn_47 : KST M35 96 98 97 95 ca sg (x_kn sg NN nz.toNat) := KST_f (fun i => (F_nl F30 (show ¬ (96 < 0) by decide) rfl)) (fun i => (F_n F30 (show ¬ (98 < 0) by decide) rfl)) (fun i => (F_n F30 (show ¬ (97 < 0) by decide) rfl)) (fun i => (F_nl F30 (show ¬ (95 < 0) by decide) rfl)) g8
        exact ih M35 v41 v43 hG31 F36 (by omega) (by omega) (by omega) (by omega) (by omega) j_45 j_46 kn_47 (((F_n F30 (show ¬ (77 < 0) by decide) rfl)).trans g9) (x_dpl_s (by omega) (by omega) (by omega) g10 (x_dpl_z (c := v25.toInt) (fun y => by have := z_39.mpr y; omega) z_27 rfl e42)) (by omega)
      · refine to_c (pc := 61) rw_208_61 (x := (1 : Int32)) rfl rfl (to_an (pc := 62) rw_208_62 rfl (s_gR (pc := 63) rw_208_63 hG31 rfl (v := 99) rfl (to_c (pc := 66) rw_208_66 (x := (30 : Int32)) rfl rfl (to_in (pc := 68) rw_208_68 rfl (s_mul (pc := 69) rw_208_69 (A := 30) (B := p.toInt) rfl rfl (by omega) (fun v48 e49 => to_i (pc := 70) rw_208_70 rfl (s_add (pc := 72) rw_208_72 (A := v48.toInt) (B := x5.toInt) rfl rfl (by omega) (fun v50 e51 => s_ial (pc := 73) rw_208_73 hG31 rfl (n := 180) rfl rfl (A := v50.toInt) rfl (by omega) (by omega) (lo := 0) (hi := 29) rfl rfl (fun v52 w_53 _ _ => ?_)))))))))
        have j_54 := (PKr_f (fun a i z => F_n F30 (show ¬ (a < 0) by omega) rfl) g6)
        have z_55 := PKr_r (p := p.toInt) (k := x5.toInt) (i := v50.toInt) j_54 (by omega) (by omega) (by omega) (by omega) (by omega) w_53
        refine s_opE (pc := 74) rw_208_74 (w := (1 : Int32) <<< v52) rfl (fun v56 e57 => to_go (pc := 75) rw_208_75 (s_opE (pc := 79) rw_208_79 (w := x4 ||| v56) rfl (fun v58 e59 => to_is (pc := 80) rw_208_80 (ls2 := [.ref 77, .int p, .long x, .null, .int v58, .int x5]) rfl rfl (s_inc (pc := 82) rw_208_82 (ls2 := fun v => [.ref 77, .int p, .long x, .null, .int v58, .int v]) rfl rfl (fun _ => rfl) (A := x5.toInt) (B := 1) rfl rfl (by omega) (fun v60 e61 => to_go (pc := 85) rw_208_85 ?_)))))
        have j_62 := (PLk_f (tg_101 F30) g7)
        have kn_63 : KST M35 96 98 97 95 ca sg (x_kn sg NN nz.toNat) := KST_f (fun i => (F_nl F30 (show ¬ (96 < 0) by decide) rfl)) (fun i => (F_n F30 (show ¬ (98 < 0) by decide) rfl)) (fun i => (F_n F30 (show ¬ (97 < 0) by decide) rfl)) (fun i => (F_nl F30 (show ¬ (95 < 0) by decide) rfl)) g8
        exact ih M35 v58 v60 hG31 F36 (by omega) (by omega) (by omega) (by omega) (by omega) j_54 j_62 kn_63 (((F_n F30 (show ¬ (77 < 0) by decide) rfl)).trans g9) (x_dpl_s (by omega) (by omega) (by omega) g10 (x_dpl_y (c := v52.toInt) (by rw [show v52.toInt = v25.toInt by omega]; exact z_39.mp (by omega)) z_55 e57 rfl e59)) (by omega)
set_option maxRecDepth 4000 in
set_option maxHeartbeats 0 in
theorem E_208 {X : mm_X} {d : Nat} {M : mm_M} {Q : Option Value → mm_M → Prop} {p : Int32} {x : Int64} {sg : x_S} {NN : x_N} {nz : Int} {ca : Int} {P9 : x_P} {ov : Int32} {n9 : Int} (hX : g_X X) (hd : 3 ≤ d) (hG : g_G M) (q1 : x_vn sg ca NN nz) (q2 : ca ≤ 30) (q3 : (M.2.1 77 29).toInt = nz) (q4 : (M.2.1 77 28).toInt = ca) (q5 : CWk M sg) (q6 : FA M) (q7 : PLk M sg) (q8 : W8 M) (q9 : NTr M NN nz) (q10 : PKr M P9) (q11 : x_pg P9 n9 ca) (q12 : n9 ≤ 30) (q13 : M.2.1 77 41 = ov) (h : ∀ (r : Int32) (M1 : mm_M), g_G M1 → FR md_k2 M M1 → (r = x_drops P9 (x_kn sg NN nz.toNat) ov sg.1 x p.toInt) → Q (some (.int r)) M1) : mm_T X d 207 0 [.ref 77, .int p, .long x, .null, .null, .null] [] M Q := by
  have F0 : FR md_k2 M M := FR.rf
  have b_64 := g_b hG (a := 77) (i := 29) (lo := 0) (hi := 150) rfl rfl
  have b_65 := g_b hG (a := 77) (i := 28) (lo := 0) (hi := 30) rfl rfl
  have z_66 := q7.2.1
  have z_67 := q7.2.2.1
  have z_68 := q7.2.2.2.1
  have z_69 := q7.1
  have z_70 := z_69.1
  have z_71 := z_69.2.1
  have z_72 := z_69.2.2.1
  have z_73 := z_69.2.2.2.1
  have z_74 := z_69.2.2.2.2.1
  have z_75 := z_69.2.2.2.2.2.1
  have b_76 := g_b hG (a := 77) (i := 11) (lo := 10) (hi := 60) rfl rfl
  have b_77 := g_b hG (a := 77) (i := 12) (lo := 0) (hi := 8) rfl rfl
  have b_78 := g_b hG (a := 77) (i := 13) (lo := 0) (hi := 12) rfl rfl
  refine to_an (pc := 0) rw_208_0 rfl (to_c (pc := 1) rw_208_1 (x := (0 : Int32)) rfl rfl (s_pI (pc := 2) rw_208_2 hG rfl (fun M80 W79 => ?_)))
  have hG81 := g_wf hG W79 rfl rfl (by decide)
  have F82 := FR.w F0 W79 (show 77 = 77 ∧ 2 = 2 ∨ 94 ≤ 77 ∧ 77 ≤ 98 by decide)
  refine to_in (pc := 5) rw_208_5 rfl (s_s (pc := 6) rw_208_6 (dp0 hd (by decide)) (ls0 := [.int p]) rfl (Nat.le_of_ble_eq_true rfl) (Nat.le_of_ble_eq_true rfl) rfl (to_rcs rfl rfl) rfl (to_in (pc := 0) rw_205_0 rfl (b_ilt (pc := 1) rw_205_1 (A := p.toInt) rfl (fun h83 => ?_) (fun h83 => ?_))))
  · refine to_c (pc := 14) rw_205_14 (x := (0 : Int32)) rfl rfl (s_r1 (pc := 15) rw_205_15 (A := 0) rfl (by decide) (b_ine_f (pc := 9) rw_208_9 (A := 0) rfl (by decide) (to_c (pc := 12) rw_208_12 (x := (-1 : Int32)) rfl rfl (to_r0 (pc := 13) rw_208_13 ?_))))
    have k_84 : (-1 : Int32).toInt = -1 := rfl
    exact h (-1 : Int32) M80 hG81 F82 (x_drops_n (by omega) rfl)
  · refine to_in (pc := 4) rw_205_4 rfl (to_c (pc := 5) rw_205_5 (x := (6 : Int32)) rfl rfl (b_cge (pc := 7) rw_205_7 (A := p.toInt) (B := 6) rfl rfl (fun h85 => ?_) (fun h85 => ?_)))
    · refine to_c (pc := 14) rw_205_14 (x := (0 : Int32)) rfl rfl (s_r1 (pc := 15) rw_205_15 (A := 0) rfl (by decide) (b_ine_f (pc := 9) rw_208_9 (A := 0) rfl (by decide) (to_c (pc := 12) rw_208_12 (x := (-1 : Int32)) rfl rfl (to_r0 (pc := 13) rw_208_13 ?_))))
      have k_86 : (-1 : Int32).toInt = -1 := rfl
      exact h (-1 : Int32) M80 hG81 F82 (x_drops_n (by omega) rfl)
    · refine to_c (pc := 10) rw_205_10 (x := (1 : Int32)) rfl rfl (to_go (pc := 11) rw_205_11 (s_r1 (pc := 15) rw_205_15 (A := 1) rfl (by decide) (b_ine_t (pc := 9) rw_208_9 (A := 1) rfl (by decide) (to_an (pc := 14) rw_208_14 rfl (to_an (pc := 15) rw_208_15 rfl ?_)))))
      have c_87 : M80.2.1 77 29 = (M.2.1 77 29) := (W_n W79 (by decide) rfl)
      refine tt_gI (pc := 16) rw_208_16 (g_o hG81 rfl) (v := (M.2.1 77 29)) c_87 (s_v (pc := 19) rw_208_19 (dp0 hd (by decide)) (ls0 := [.ref 77, .int (M.2.1 77 29), .null, .null]) rfl (Nat.le_of_ble_eq_true rfl) (Nat.le_of_ble_eq_true rfl) rfl (to_rc rfl rfl rfl (g_o hG81 rfl)) rfl ?_)
      have c_88 : M80.2.1 77 28 = (M.2.1 77 28) := (W_n W79 (by decide) rfl)
      have t_89 : (M80.2.1 77 28).toInt = (M.2.1 77 28).toInt := congrArg Int32.toInt c_88
      have j_90 := (CWk_f (fun k hk9 => W_j W79 rfl) q5)
      have j_91 := (FA_f (fun a i z => W_n W79 (tg_94 a i z) rfl) q6)
      have j_92 := (PLk_f (fun a i z => W_n W79 (tg_91 a i z) rfl) q7)
      have j_93 := (W8_f (fun a i z => W_n W79 (tg_95 a i z) rfl) q8)
      have j_94 := (NTr_f (fun a i z => W_n W79 (tg_135 a i z) rfl) q9)
      refine E_189 hX (dp1 hd (by decide)) hG81 (by omega) (by omega) (by omega) q1 (by omega) (by omega) j_90 j_91 j_92 j_93 j_94 (n := (M.2.1 77 29)) (sg := sg) (NN := NN) (nz := nz) (ca := ca) (fun M98 hG96 F95 p_97 => ?_)
      have F99 := FR.c F82 F95 tg_134
      refine to_c (pc := 22) rw_208_22 (x := (0 : Int32)) rfl rfl (to_is (pc := 23) rw_208_23 (ls2 := [.ref 77, .int p, .long x, .null, .int (0 : Int32), .null]) rfl rfl (to_c (pc := 25) rw_208_25 (x := (0 : Int32)) rfl rfl (to_is (pc := 26) rw_208_26 (ls2 := [.ref 77, .int p, .long x, .null, .int (0 : Int32), .int (0 : Int32)]) rfl rfl ?_)))
      have k_100 : (0 : Int32).toInt = 0 := rfl
      have j_101 := (PKr_f (fun a i z => F_n F95 (show ¬ (94 ≤ a ∧ a ≤ 98) by omega) rfl) (PKr_f (fun a i z => W_n W79 (by /-r77,2-/ omega) rfl) q10))
      have j_102 := (PLk_f (tg_136 F95) j_92)
      have z_103 := x_pg_le (p := p.toInt) q11 (by omega) (by omega)
      exact (U_208_0 (p := p) (x := x) (sg := sg) (NN := NN) (nz := nz) (ca := ca) (P9 := P9) (ov := ov) (n9 := n9) hX hd q1 q2 q3 q4 q5 q6 q7 q8 q9 q10 q11 q12 q13 h ((30 - (0 : Int32).toInt).toNat + 1)) M98 (0 : Int32) (0 : Int32) hG96 F99 (by omega) (by omega) (by omega) (by omega) (by omega) j_101 j_102 (KST_nv (by omega) p_97) (((F_n F95 (show ¬ (94 ≤ 77 ∧ 77 ≤ 98) by decide) (W_n W79 (by omega) rfl))).trans q13) (x_dpl_0 (by first | omega | decide) rfl) (by omega)
