theorem tg_141 : ∀ a i : Nat, (19 ≤ a ∧ a ≤ 25) → (a = 0 ∧ i = 12 ∨ 18 ≤ a ∧ a ≤ 27) := fun a i z => by omega
theorem tg_142 : ∀ a i : Nat, (19 ≤ a ∧ a ≤ 25) → (17 ≤ a ∧ a ≤ 27) := fun a i z => by omega
theorem tg_143 : ∀ a i : Nat, (17 ≤ a ∧ a ≤ 27) → (17 ≤ a ∧ a ≤ 27) := fun a i z => by omega
theorem tg_144 : ∀ a i : Nat, (11 ≤ a ∧ a ≤ 16) → (11 ≤ a ∧ a ≤ 16 ∨ a = 27 ∨ 36 ≤ a ∧ a ≤ 48) := fun a i z => by omega
theorem tg_145 : ∀ a i : Nat, (a = 27) → (11 ≤ a ∧ a ≤ 16 ∨ a = 27 ∨ 36 ≤ a ∧ a ≤ 48) := fun a i z => by omega
theorem tg_146 : ∀ a i : Nat, (a < 0) → (11 ≤ a ∧ a ≤ 16 ∨ a = 27 ∨ 36 ≤ a ∧ a ≤ 48) := fun a i z => by omega
set_option maxRecDepth 4000 in
set_option maxHeartbeats 0 in
theorem E_128 {X : mm_X} {d : Nat} {M : mm_M} {Q : Option Value → mm_M → Prop} {k : Int32} {j : Int32} {p : Nat} {pz : Nat} {q : Nat} {qz : Nat} {P9 : x_P} (hX : g_X X) (hd : 1 ≤ d) (hG : g_G M) (hp : p = 49 ∨ p = 58) (hpz : pz = 49 ∨ pz = 58) (hq : q = 67 ∨ q = 72) (hqz : qz = 67 ∨ qz = 72) (q1 : g_PQ M p pz q qz) (q2 : PKc M P9) (h : ∀ (r : Int32) (M1 : mm_M), g_G M1 → FR md_0 M M1 → (r.toInt = x_packv P9 k.toInt j.toInt) → Q (some (.int r)) M1) : mm_T X d 128 0 [.ref 0, .int k, .int j] [] M Q := by
  have F0 : FR md_0 M M := FR.rf
  refine to_in (pc := 0) rw_128_0 rfl (s_s (pc := 1) rw_128_1 (dp0 hd (by decide)) (ls0 := [.int k]) rfl (Nat.le_of_ble_eq_true rfl) (Nat.le_of_ble_eq_true rfl) rfl (to_rcs rfl rfl) rfl (to_in (pc := 0) rw_143_0 rfl (b_ilt (pc := 1) rw_143_1 (A := k.toInt) rfl (fun h1 => ?_) (fun h1 => ?_))))
  · refine to_c (pc := 14) rw_143_14 (x := (0 : Int32)) rfl rfl (s_r1 (pc := 15) rw_143_15 (A := 0) rfl (by decide) (b_ieq_t (pc := 4) rw_128_4 (A := 0) rfl (by decide) (to_c (pc := 24) rw_128_24 (x := (-1 : Int32)) rfl rfl (to_r0 (pc := 25) rw_128_25 ?_))))
    have k_2 : (-1 : Int32).toInt = -1 := rfl
    have z_3 := x_packv_n (P := P9) (p := k.toInt) (k := j.toInt) (v := -1) (by omega) rfl
    exact h (-1 : Int32) M hG F0 (by omega)
  · refine to_in (pc := 4) rw_143_4 rfl (to_c (pc := 5) rw_143_5 (x := (6 : Int32)) rfl rfl (b_cge (pc := 7) rw_143_7 (A := k.toInt) (B := 6) rfl rfl (fun h4 => ?_) (fun h4 => ?_)))
    · refine to_c (pc := 14) rw_143_14 (x := (0 : Int32)) rfl rfl (s_r1 (pc := 15) rw_143_15 (A := 0) rfl (by decide) (b_ieq_t (pc := 4) rw_128_4 (A := 0) rfl (by decide) (to_c (pc := 24) rw_128_24 (x := (-1 : Int32)) rfl rfl (to_r0 (pc := 25) rw_128_25 ?_))))
      have k_5 : (-1 : Int32).toInt = -1 := rfl
      have z_6 := x_packv_n (P := P9) (p := k.toInt) (k := j.toInt) (v := -1) (by omega) rfl
      exact h (-1 : Int32) M hG F0 (by omega)
    · refine to_c (pc := 10) rw_143_10 (x := (1 : Int32)) rfl rfl (to_go (pc := 11) rw_143_11 (s_r1 (pc := 15) rw_143_15 (A := 1) rfl (by decide) (b_ieq_f (pc := 4) rw_128_4 (A := 1) rfl (by decide) (to_in (pc := 7) rw_128_7 rfl (b_ilt (pc := 8) rw_128_8 (A := j.toInt) rfl (fun h7 => ?_) (fun h7 => ?_))))))
      · refine to_c (pc := 24) rw_128_24 (x := (-1 : Int32)) rfl rfl (to_r0 (pc := 25) rw_128_25 ?_)
        have k_8 : (-1 : Int32).toInt = -1 := rfl
        have z_9 := x_packv_n (P := P9) (p := k.toInt) (k := j.toInt) (v := -1) (by omega) rfl
        exact h (-1 : Int32) M hG F0 (by omega)
      · refine to_in (pc := 11) rw_128_11 rfl (to_an (pc := 12) rw_128_12 rfl (s_gR (pc := 13) rw_128_13 hG rfl (v := 17) rfl (s_gR (pc := 16) rw_128_16 hG rfl (v := 25) rfl (to_in (pc := 19) rw_128_19 rfl (s_ial (pc := 20) rw_128_20 hG rfl (n := 6) rfl rfl (A := k.toInt) rfl (by omega) (by omega) (lo := 0) (hi := 30) rfl rfl (fun v10 w_11 _ _ => ?_))))))
        have z_12 := PKc_u (p := k.toInt) q2 (by omega) (by omega) w_11
        refine b_clt (pc := 21) rw_128_21 (A := j.toInt) (B := v10.toInt) rfl rfl (fun h13 => ?_) (fun h13 => ?_)
        · refine to_an (pc := 26) rw_128_26 rfl (s_gR (pc := 27) rw_128_27 hG rfl (v := 17) rfl (s_gR (pc := 30) rw_128_30 hG rfl (v := 18) rfl (to_in (pc := 33) rw_128_33 rfl (s_aalE (pc := 34) rw_128_34 hG (A := k.toInt) rfl (by omega) (by omega) (fun r14 e15 => ?_)))))
          have hr14 : 19 ≤ r14 ∧ r14 ≤ 24 := by omega
          refine to_in (pc := 35) rw_128_35 rfl (s_ial (pc := 36) rw_128_36 hG (by rcases rr_6 hr14 with z | z | z | z | z | z <;> rw [z] <;> rfl) (n := 30) (by rcases rr_6 hr14 with z | z | z | z | z | z <;> rw [z] <;> rfl) (by rcases rr_6 hr14 with z | z | z | z | z | z <;> rw [z] <;> rfl) (A := j.toInt) rfl (by omega) (by omega) (lo := 0) (hi := 29) (by rcases rr_6 hr14 with z | z | z | z | z | z <;> rw [z] <;> rfl) (by rcases rr_6 hr14 with z | z | z | z | z | z <;> rw [z] <;> rfl) (fun v16 w_17 _ _ => ?_))
          have z_18 := PKc_r (p := k.toInt) (k := j.toInt) q2 (by omega) (by omega) e15 (by omega) (by omega) w_17
          refine to_r0 (pc := 37) rw_128_37 ?_
          have z_19 := x_packv_y (P := P9) (p := k.toInt) (k := j.toInt) (by omega) z_18
          exact h v16 M hG F0 (by omega)
        · refine to_c (pc := 24) rw_128_24 (x := (-1 : Int32)) rfl rfl (to_r0 (pc := 25) rw_128_25 ?_)
          have k_20 : (-1 : Int32).toInt = -1 := rfl
          have z_21 := x_packv_n (P := P9) (p := k.toInt) (k := j.toInt) (v := -1) (by omega) rfl
          exact h (-1 : Int32) M hG F0 (by omega)
set_option maxRecDepth 4000 in
set_option maxHeartbeats 0 in
theorem E_118 {X : mm_X} {d : Nat} {M : mm_M} {Q : Option Value → mm_M → Prop} {p : Nat} {pz : Nat} {q : Nat} {qz : Nat} {P9 : x_P} {ca : Int} {n9 : Int} (hX : g_X X) (hd : 1 ≤ d) (hG : g_G M) (hp : p = 49 ∨ p = 58) (hpz : pz = 49 ∨ pz = 58) (hq : q = 67 ∨ q = 72) (hqz : qz = 67 ∨ qz = 72) (q1 : g_PQ M p pz q qz) (q2 : PKc M P9) (q3 : x_pg P9 n9 ca) (q4 : (M.2.1 0 12).toInt = n9) (h : ∀ (r : Int32) (M1 : mm_M), g_G M1 → FR md_yc M M1 → (n9 < 30 → PKc M1 (x_ap9 P9 0 n9)) → (30 ≤ n9 → PKc M1 P9) → Q (some (.int r)) M1) : mm_T X d 118 0 [.ref 0] [] M Q := by
  have F0 : FR md_yc M M := FR.rf
  have b_1 := g_b hG (a := 0) (i := 12) (lo := 0) (hi := 30) rfl rfl
  have z_2 := x_pg_le (p := (0 : Int32).toInt) q3 (by decide) (by decide)
  refine to_an (pc := 0) rw_118_0 rfl (tt_gI (pc := 1) rw_118_1 (g_o hG rfl) (v := (M.2.1 0 12)) rfl (to_c (pc := 4) rw_118_4 (x := (30 : Int32)) rfl rfl (b_clt (pc := 6) rw_118_6 (A := (M.2.1 0 12).toInt) (B := 30) rfl rfl (fun h3 => ?_) (fun h3 => ?_))))
  · refine to_an (pc := 11) rw_118_11 rfl (s_gR (pc := 12) rw_118_12 hG rfl (v := 17) rfl (to_c (pc := 15) rw_118_15 (x := (0 : Int32)) rfl rfl (to_an (pc := 16) rw_118_16 rfl (tt_gI (pc := 17) rw_118_17 (g_o hG rfl) (v := (M.2.1 0 12)) rfl (s_v (pc := 20) rw_118_20 (dp0 hd (by decide)) (ls0 := [.ref 17, .int (0 : Int32), .int (M.2.1 0 12)]) rfl (Nat.le_of_ble_eq_true rfl) (Nat.le_of_ble_eq_true rfl) rfl (to_rc rfl rfl rfl (g_o hG rfl)) rfl ?_)))))
    have k_4 : (0 : Int32).toInt = 0 := rfl
    refine E_23 hX (dp1 hd (by decide)) hG (by omega) (by omega) (by omega) (by omega) q2 (by omega) (p := (0 : Int32)) (c := (M.2.1 0 12)) (P9 := P9) (fun M8 hG6 F5 p_7 => ?_)
    have F9 := FR.c F0 F5 tg_141
    refine to_an (pc := 23) rw_118_23 rfl (to_dupr (pc := 24) rw_118_24 ?_)
    have c_10 : M8.2.1 0 12 = (M.2.1 0 12) := (F_n F5 (show ¬ (19 ≤ 0 ∧ 0 ≤ 25) by decide) rfl)
    refine tt_gI (pc := 25) rw_118_25 (g_o hG6 rfl) (v := (M.2.1 0 12)) c_10 (to_c (pc := 28) rw_118_28 (x := (1 : Int32)) rfl rfl (s_add (pc := 29) rw_118_29 (A := (M.2.1 0 12).toInt) (B := 1) rfl rfl (by omega) (fun v11 e12 => s_pI (pc := 30) rw_118_30 hG6 rfl (fun M14 W13 => ?_))))
    have hG15 := g_w hG6 W13 (A := v11.toInt) rfl (lo := 0) (hi := 30) rfl rfl (by omega) (by decide)
    have F16 := FR.w F9 W13 (show 0 = 0 ∧ 12 = 12 ∨ 18 ≤ 0 ∧ 0 ≤ 27 by decide)
    refine to_an (pc := 33) rw_118_33 rfl ?_
    have c_17 : M14.2.1 0 12 = v11 := (W_e W13)
    refine tt_gI (pc := 34) rw_118_34 (g_o hG15 rfl) (v := v11) c_17 (to_c (pc := 37) rw_118_37 (x := (1 : Int32)) rfl rfl (s_sub (pc := 38) rw_118_38 (A := v11.toInt) (B := 1) rfl rfl (by omega) (fun v18 e19 => to_r0 (pc := 39) rw_118_39 ?_)))
    exact h v18 M14 hG15 F16 (fun _ => PKc_q rfl (by omega) (PKc_f (fun a i z => (W_n W13 (by /-r0,12-/ omega) rfl)) p_7)) (fun _ => by exfalso; omega)
  · refine to_c (pc := 9) rw_118_9 (x := (-1 : Int32)) rfl rfl (to_r0 (pc := 10) rw_118_10 ?_)
    have k_20 : (-1 : Int32).toInt = -1 := rfl
    exact h (-1 : Int32) M hG F0 (fun _ => by exfalso; omega) (fun _ => q2)
set_option maxRecDepth 4000 in
set_option maxHeartbeats 0 in
theorem U_22_0 {X : mm_X} {d : Nat} {M : mm_M} {Q : Option Value → mm_M → Prop} (hX : g_X X) (hd : 0 ≤ d) (h : ∀ (M1 : mm_M), g_G M1 → FR md_c M M1 → (PKc M1 (x_ga 0)) → Q (none) M1) : ∀ nn9 : Nat, (∀ (N : mm_M) (x1 : Int32), g_G N → FR md_c M N → (0 ≤ x1.toInt) → (x1.toInt ≤ 6) → (∀ j : Nat, j < (x1.toInt).toNat → N.2.1 25 j = 0) → 6 - x1.toInt < (nn9 : Int) → mm_T X d 22 7 [.ref 17, .int x1] [] N Q) := by
  intro nn9
  induction nn9 with
  | zero =>
    intro N x1 hG F0 g1 g2 g3 hm
    exfalso; omega
  | succ nn9 ih =>
    intro N x1 hG F0 g1 g2 g3 hm
    refine to_in (pc := 7) rw_22_7 rfl (to_c (pc := 8) rw_22_8 (x := (6 : Int32)) rfl rfl (b_cge (pc := 10) rw_22_10 (A := x1.toInt) (B := 6) rfl rfl (fun h1 => ?_) (fun h1 => ?_)))
    · refine to_rv (pc := 26) rw_22_26 ?_
      exact h N hG F0 (PKc_g0 (fun j hj => g3 j (by omega)) rfl)
    · refine to_an (pc := 13) rw_22_13 rfl (s_gR (pc := 14) rw_22_14 hG rfl (v := 25) rfl (to_in (pc := 17) rw_22_17 rfl (to_c (pc := 18) rw_22_18 (x := (0 : Int32)) rfl rfl (s_ias (pc := 19) rw_22_19 hG rfl (n := 6) rfl (A := x1.toInt) rfl (by omega) (by omega) (fun M3 W2 => ?_)))))
      have hG4 := g_w hG W2 (A := 0) rfl (lo := 0) (hi := 30) rfl rfl (by omega) (by decide)
      have F5 := FR.w F0 W2 (show 17 ≤ 25 ∧ 25 ≤ 27 by decide)
      refine s_inc (pc := 20) rw_22_20 (ls2 := fun v => [.ref 17, .int v]) rfl rfl (fun _ => rfl) (A := x1.toInt) (B := 1) rfl rfl (by omega) (fun v6 e7 => to_go (pc := 23) rw_22_23 ?_)
      exact ih M3 v6 hG4 F5 (by omega) (by omega) (zr_s g3 (by omega) W2 rfl rfl (by omega)) (by omega)
set_option maxRecDepth 4000 in
set_option maxHeartbeats 0 in
theorem E_22 {X : mm_X} {d : Nat} {M : mm_M} {Q : Option Value → mm_M → Prop} (hX : g_X X) (hd : 0 ≤ d) (hG : g_G M) (h : ∀ (M1 : mm_M), g_G M1 → FR md_c M M1 → (PKc M1 (x_ga 0)) → Q (none) M1) : mm_T X d 22 0 [.ref 17, .null] [] M Q := by
  have F0 : FR md_c M M := FR.rf
  refine to_an (pc := 0) rw_22_0 rfl (to_c (pc := 1) rw_22_1 (x := (0 : Int32)) rfl rfl (s_pI (pc := 2) rw_22_2 hG rfl (fun M9 W8 => ?_)))
  have hG10 := g_wf hG W8 rfl rfl (by decide)
  have F11 := FR.w F0 W8 (show 17 ≤ 17 ∧ 17 ≤ 27 by decide)
  refine to_c (pc := 5) rw_22_5 (x := (0 : Int32)) rfl rfl (to_isn (pc := 6) rw_22_6 (ls2 := [.ref 17, .int (0 : Int32)]) rfl rfl ?_)
  have k_12 : (0 : Int32).toInt = 0 := rfl
  exact (U_22_0 hX hd  h ((6 - (0 : Int32).toInt).toNat + 1)) M9 (0 : Int32) hG10 F11 (by omega) (by omega) (zr_0 (by first | omega | decide)) (by omega)
set_option maxRecDepth 4000 in
set_option maxHeartbeats 0 in
theorem U_130_0 {X : mm_X} {d : Nat} {M : mm_M} {Q : Option Value → mm_M → Prop} {p : Nat} {pz : Nat} {q : Nat} {qz : Nat} (hX : g_X X) (hd : 1 ≤ d) (hp : p = 49 ∨ p = 58) (hpz : pz = 49 ∨ pz = 58) (hq : q = 67 ∨ q = 72) (hqz : qz = 67 ∨ qz = 72) (q1 : g_PQ M p pz q qz) (h : ∀ (r : Int32) (M1 : mm_M), g_G M1 → FR md_c M M1 → (PKc M1 (x_ga (M.2.1 0 12).toInt)) → Q (some (.int r)) M1) : ∀ nn9 : Nat, (∀ (N : mm_M) (x1 : Int32), g_G N → FR md_c M N → (0 ≤ x1.toInt) → (x1.toInt ≤ 30) → (x1.toInt ≤ (N.2.1 0 12).toInt) → ((N.2.1 0 12).toInt = (M.2.1 0 12).toInt) → (PKc N (x_ga x1.toInt)) → 30 - x1.toInt < (nn9 : Int) → mm_T X d 130 9 [.ref 0, .int x1] [] N Q) := by
  intro nn9
  induction nn9 with
  | zero =>
    intro N x1 hG F0 g1 g2 g3 g4 g5 hm
    have b_1 := g_b hG (a := 0) (i := 12) (lo := 0) (hi := 30) rfl rfl
    exfalso; omega
  | succ nn9 ih =>
    intro N x1 hG F0 g1 g2 g3 g4 g5 hm
    have b_2 := g_b hG (a := 0) (i := 12) (lo := 0) (hi := 30) rfl rfl
    refine to_in (pc := 9) rw_130_9 rfl (to_an (pc := 10) rw_130_10 rfl (tt_gI (pc := 11) rw_130_11 (g_o hG rfl) (v := (N.2.1 0 12)) rfl (b_cge (pc := 14) rw_130_14 (A := x1.toInt) (B := (N.2.1 0 12).toInt) rfl rfl (fun h3 => ?_) (fun h3 => ?_))))
    · refine to_an (pc := 32) rw_130_32 rfl (tt_gI (pc := 33) rw_130_33 (g_o hG rfl) (v := (N.2.1 0 12)) rfl (to_r0 (pc := 36) rw_130_36 ?_))
      exact h (N.2.1 0 12) N hG F0 (x_ga_v (by omega) g5)
    · refine to_an (pc := 17) rw_130_17 rfl (s_gR (pc := 18) rw_130_18 hG rfl (v := 17) rfl (to_c (pc := 21) rw_130_21 (x := (0 : Int32)) rfl rfl (to_in (pc := 22) rw_130_22 rfl (s_v (pc := 23) rw_130_23 (dp0 hd (by decide)) (ls0 := [.ref 17, .int (0 : Int32), .int x1]) rfl (Nat.le_of_ble_eq_true rfl) (Nat.le_of_ble_eq_true rfl) rfl (to_rc rfl rfl rfl (g_o hG rfl)) rfl ?_))))
      have k_4 : (0 : Int32).toInt = 0 := rfl
      refine E_23 hX (dp1 hd (by decide)) hG (by omega) (by omega) (by omega) (by omega) g5 (x_ga_z rfl (by omega) (by omega)) (p := (0 : Int32)) (c := x1) (P9 := (x_ga x1.toInt)) (fun M8 hG6 F5 p_7 => ?_)
      have F9 := FR.c F0 F5 tg_142
      refine s_inc (pc := 26) rw_130_26 (ls2 := fun v => [.ref 0, .int v]) rfl rfl (fun _ => rfl) (A := x1.toInt) (B := 1) rfl rfl (by omega) (fun v10 e11 => to_go (pc := 29) rw_130_29 ?_)
      have c_12 : M8.2.1 0 12 = (N.2.1 0 12) := (F_n F5 (show ¬ (19 ≤ 0 ∧ 0 ≤ 25) by decide) rfl)
      have t_13 : (M8.2.1 0 12).toInt = (N.2.1 0 12).toInt := congrArg Int32.toInt c_12
      exact ih M8 v10 hG6 F9 (by omega) (by omega) (by omega) (by omega) (PKc_gs (PKc_q rfl rfl p_7) (by omega) (by omega) (by omega)) (by omega)
set_option maxRecDepth 4000 in
set_option maxHeartbeats 0 in
theorem E_130 {X : mm_X} {d : Nat} {M : mm_M} {Q : Option Value → mm_M → Prop} {p : Nat} {pz : Nat} {q : Nat} {qz : Nat} (hX : g_X X) (hd : 1 ≤ d) (hG : g_G M) (hp : p = 49 ∨ p = 58) (hpz : pz = 49 ∨ pz = 58) (hq : q = 67 ∨ q = 72) (hqz : qz = 67 ∨ qz = 72) (q1 : g_PQ M p pz q qz) (h : ∀ (r : Int32) (M1 : mm_M), g_G M1 → FR md_c M M1 → (PKc M1 (x_ga (M.2.1 0 12).toInt)) → Q (some (.int r)) M1) : mm_T X d 130 0 [.ref 0, .null] [] M Q := by
  have F0 : FR md_c M M := FR.rf
  have b_14 := g_b hG (a := 0) (i := 12) (lo := 0) (hi := 30) rfl rfl
  refine to_an (pc := 0) rw_130_0 rfl (s_gR (pc := 1) rw_130_1 hG rfl (v := 17) rfl (s_v (pc := 4) rw_130_4 (dp0 hd (by decide)) (ls0 := [.ref 17, .null]) rfl (Nat.le_of_ble_eq_true rfl) (Nat.le_of_ble_eq_true rfl) rfl (to_rc rfl rfl rfl (g_o hG rfl)) rfl (E_22 hX (dp1 hd (by decide)) hG  (fun M18 hG16 F15 p_17 => ?_))))
  have F19 := FR.c F0 F15 tg_143
  refine to_c (pc := 7) rw_130_7 (x := (0 : Int32)) rfl rfl (to_isn (pc := 8) rw_130_8 (ls2 := [.ref 0, .int (0 : Int32)]) rfl rfl ?_)
  have k_20 : (0 : Int32).toInt = 0 := rfl
  have c_21 : M18.2.1 0 12 = (M.2.1 0 12) := (F_n F15 (show ¬ (17 ≤ 0 ∧ 0 ≤ 27) by decide) rfl)
  have t_22 : (M18.2.1 0 12).toInt = (M.2.1 0 12).toInt := congrArg Int32.toInt c_21
  exact (U_130_0 (p := p) (pz := pz) (q := q) (qz := qz) hX hd hp hpz hq hqz q1 h ((30 - (0 : Int32).toInt).toNat + 1)) M18 (0 : Int32) hG16 F19 (by omega) (by omega) (by omega) (by omega) (x_ga_v (by first | omega | decide) p_17) (by omega)
set_option maxRecDepth 4000 in
set_option maxHeartbeats 0 in
theorem E_129 {X : mm_X} {d : Nat} {M : mm_M} {Q : Option Value → mm_M → Prop} {k : Int32} {x : Int64} {p : Nat} {pz : Nat} {q : Nat} {qz : Nat} {sg : x_S} {NN : x_N} {nz : Int} {ca : Int} {P9 : x_P} {ov : Int32} {n9 : Int} (hX : g_X X) (hd : 6 ≤ d) (hG : g_G M) (hp : p = 49 ∨ p = 58) (hpz : pz = 49 ∨ pz = 58) (hq : q = 67 ∨ q = 72) (hqz : qz = 67 ∨ qz = 72) (q1 : g_PQ M p pz q qz) (q2 : PLs M p sg) (q3 : CW M p sg) (q4 : g_W2 X) (q5 : NTc M NN nz) (q6 : x_vn sg ca NN nz) (q7 : (M.2.1 6 0).toInt = nz) (q8 : (M.2.1 0 12).toInt = ca) (q9 : ca ≤ 30) (q10 : PKc M P9) (q11 : x_pg P9 n9 ca) (q12 : n9 ≤ 30) (q13 : M.2.1 17 4 = ov) (h : ∀ (r : Int32) (M1 : mm_M), g_G M1 → FR md_y M M1 → (r = x_drops P9 (x_kn sg NN nz.toNat) ov sg.1 x k.toInt) → Q (some (.int r)) M1) : mm_T X d 129 0 [.ref 0, .int k, .long x, .null] [] M Q := by
  have F0 : FR md_y M M := FR.rf
  have b_1 := g_b hG (a := 6) (i := 0) (lo := 0) (hi := 150) rfl rfl
  have b_2 := g_b hG (a := 0) (i := 12) (lo := 0) (hi := 30) rfl rfl
  have z_3 := q2.2.1
  have z_4 := q2.2.2.1
  have z_5 := q2.2.2.2.1
  have z_6 := q2.1
  have z_7 := z_6.1
  have z_8 := z_6.2.1
  have z_9 := z_6.2.2.1
  have z_10 := z_6.2.2.2.1
  have z_11 := z_6.2.2.2.2.1
  have z_12 := z_6.2.2.2.2.2.1
  have b_13 := g_b hG (a := p) (i := 2) (lo := 0) (hi := 8) (by rcases hp with rfl | rfl <;> rfl) (by rcases hp with rfl | rfl <;> rfl)
  have b_14 := g_b hG (a := p) (i := 3) (lo := 0) (hi := 12) (by rcases hp with rfl | rfl <;> rfl) (by rcases hp with rfl | rfl <;> rfl)
  refine to_in (pc := 0) rw_129_0 rfl (s_s (pc := 1) rw_129_1 (dp0 hd (by decide)) (ls0 := [.int k]) rfl (Nat.le_of_ble_eq_true rfl) (Nat.le_of_ble_eq_true rfl) rfl (to_rcs rfl rfl) rfl (to_in (pc := 0) rw_143_0 rfl (b_ilt (pc := 1) rw_143_1 (A := k.toInt) rfl (fun h15 => ?_) (fun h15 => ?_))))
  · refine to_c (pc := 14) rw_143_14 (x := (0 : Int32)) rfl rfl (s_r1 (pc := 15) rw_143_15 (A := 0) rfl (by decide) (b_ine_f (pc := 4) rw_129_4 (A := 0) rfl (by decide) (to_c (pc := 7) rw_129_7 (x := (-1 : Int32)) rfl rfl (to_r0 (pc := 8) rw_129_8 ?_))))
    have k_16 : (-1 : Int32).toInt = -1 := rfl
    exact h (-1 : Int32) M hG F0 (x_drops_n (by omega) rfl)
  · refine to_in (pc := 4) rw_143_4 rfl (to_c (pc := 5) rw_143_5 (x := (6 : Int32)) rfl rfl (b_cge (pc := 7) rw_143_7 (A := k.toInt) (B := 6) rfl rfl (fun h17 => ?_) (fun h17 => ?_)))
    · refine to_c (pc := 14) rw_143_14 (x := (0 : Int32)) rfl rfl (s_r1 (pc := 15) rw_143_15 (A := 0) rfl (by decide) (b_ine_f (pc := 4) rw_129_4 (A := 0) rfl (by decide) (to_c (pc := 7) rw_129_7 (x := (-1 : Int32)) rfl rfl (to_r0 (pc := 8) rw_129_8 ?_))))
      have k_18 : (-1 : Int32).toInt = -1 := rfl
      exact h (-1 : Int32) M hG F0 (x_drops_n (by omega) rfl)
    · refine to_c (pc := 10) rw_143_10 (x := (1 : Int32)) rfl rfl (to_go (pc := 11) rw_143_11 (s_r1 (pc := 15) rw_143_15 (A := 1) rfl (by decide) (b_ine_t (pc := 4) rw_129_4 (A := 1) rfl (by decide) (to_an (pc := 9) rw_129_9 rfl (s_v (pc := 10) rw_129_10 (dp0 hd (by decide)) (ls0 := [.ref 0]) rfl (Nat.le_of_ble_eq_true rfl) (Nat.le_of_ble_eq_true rfl) rfl (to_rc rfl rfl rfl (g_o hG rfl)) rfl (to_an (pc := 0) rw_142_0 rfl (s_gR (pc := 1) rw_142_1 hG rfl (v := 11) rfl (to_an (pc := 4) rw_142_4 rfl (tt_gR (pc := 5) rw_142_5 (g_o hG rfl) q1.1 (to_an (pc := 8) rw_142_8 rfl (s_gR (pc := 9) rw_142_9 hG rfl (v := 6) rfl ?_)))))))))))
      refine to_an (pc := 12) rw_142_12 rfl (s_gR (pc := 13) rw_142_13 hG rfl (v := 6) rfl (tt_gI (pc := 16) rw_142_16 (g_o hG rfl) (v := (M.2.1 6 0)) rfl (s_v (pc := 19) rw_142_19 (dp1 hd (by decide)) (ls0 := [.ref 11, .ref p, .ref 6, .int (M.2.1 6 0), .null]) rfl (Nat.le_of_ble_eq_true rfl) (Nat.le_of_ble_eq_true rfl) rfl (to_rc rfl rfl rfl (g_o hG rfl)) rfl (E_8 hX (dp2 hd (by decide)) hG hp (by omega) (by omega) (by omega) q3 q2 q4 q5 q6 (by omega) (p := p) (n := (M.2.1 6 0)) (sg := sg) (NN := NN) (nz := nz) (ca := ca) (fun M22 hG20 F19 p_21 => ?_)))))
      have F23 := FR.c F0 F19 tg_144
      refine to_rv (pc := 22) rw_142_22 (to_an (pc := 13) rw_129_13 rfl (s_gR (pc := 14) rw_129_14 hG20 rfl (v := 17) rfl (to_an (pc := 17) rw_129_17 rfl (s_gR (pc := 18) rw_129_18 hG20 rfl (v := 11) rfl (to_an (pc := 21) rw_129_21 rfl ?_)))))
      have j_24 := (PQ_f F19 q1)
      refine tt_gR (pc := 22) rw_129_22 (g_o hG20 rfl) j_24.1 ?_
      have c_25 : M22.2.1 p 0 = (M.2.1 p 0) := (F_n F19 (show ¬ (11 ≤ p ∧ p ≤ 16) by omega) rfl)
      have b_26 := g_b hG (a := p) (i := 0) (lo := 10) (hi := 60) (by rcases hp with rfl | rfl <;> rfl) (by rcases hp with rfl | rfl <;> rfl)
      refine tt_gI (pc := 25) rw_129_25 (g_o hG20 (by rcases hp with rfl | rfl <;> rfl)) (v := (M.2.1 p 0)) c_25 (s_v (pc := 28) rw_129_28 (dp0 hd (by decide)) (ls0 := [.ref 17, .ref 11, .int (M.2.1 p 0), .null, .null]) rfl (Nat.le_of_ble_eq_true rfl) (Nat.le_of_ble_eq_true rfl) rfl (to_rc rfl rfl rfl (g_o hG20 rfl)) rfl (E_24 hX (dp1 hd (by decide)) hG20 (by omega) (by omega) p_21 (y := (M.2.1 p 0)) (sg := sg) (ca := ca) (K := (x_kn sg NN ((M.2.1 6 0).toInt).toNat)) (fun M30 hG28 F27 p_29 => ?_)))
      have F31 := FR.c F23 F27 tg_145
      refine to_an (pc := 31) rw_129_31 rfl (s_gR (pc := 32) rw_129_32 hG28 rfl (v := 17) rfl (to_in (pc := 35) rw_129_35 rfl (to_ln (pc := 36) rw_129_36 rfl rfl rfl (to_c (pc := 37) rw_129_37 (x := (0 : Int32)) rfl rfl (to_an (pc := 38) rw_129_38 rfl ?_)))))
      have j_32 := (PQ_f F27 j_24)
      refine tt_gR (pc := 39) rw_129_39 (g_o hG28 rfl) j_32.1 ?_
      have c_33 : M30.2.1 p 0 = (M.2.1 p 0) := (F_n F27 (show ¬ (p = 27) by omega) c_25)
      refine tt_gI (pc := 42) rw_129_42 (g_o hG28 (by rcases hp with rfl | rfl <;> rfl)) (v := (M.2.1 p 0)) c_33 (to_c (pc := 45) rw_129_45 (x := (1 : Int32)) rfl rfl (s_sub (pc := 46) rw_129_46 (A := (M.2.1 p 0).toInt) (B := 1) rfl rfl (by omega) (fun v34 e35 => s_s (pc := 47) rw_129_47 (dp0 hd (by decide)) (ls0 := [.int (0 : Int32), .int v34]) rfl (Nat.le_of_ble_eq_true rfl) (Nat.le_of_ble_eq_true rfl) rfl (to_rcs rfl rfl) rfl (to_cl (pc := 0) rw_144_0 rfl (x := (1 : Int64)) rfl (to_in (pc := 1) rw_144_1 rfl (to_in (pc := 2) rw_144_2 rfl (s_sub (pc := 3) rw_144_3 (A := v34.toInt) (B := 0) rfl rfl (by omega) (fun v36 e37 => to_c (pc := 4) rw_144_4 (x := (1 : Int32)) rfl rfl (s_add (pc := 5) rw_144_5 (A := v36.toInt) (B := 1) rfl rfl (by omega) (fun v38 e39 => to_2s (pc := 6) rw_144_6 (v := ((1 : Int64) <<< (v38.toInt64 &&& 63))) rfl (to_cl (pc := 7) rw_144_7 rfl (x := (1 : Int64)) rfl ?_)))))))))))
      refine to_2l (pc := 8) rw_144_8 (v := (((1 : Int64) <<< (v38.toInt64 &&& 63)) - (1 : Int64))) rfl (to_in (pc := 9) rw_144_9 rfl (to_2s (pc := 10) rw_144_10 (v := ((((1 : Int64) <<< (v38.toInt64 &&& 63)) - (1 : Int64)) <<< ((0 : Int32).toInt64 &&& 63))) rfl ?_))
      have k_40 : (0 : Int32).toInt = 0 := rfl
      refine to_rl (pc := 11) rw_144_11 (to_2l (pc := 50) rw_129_50 (v := (x &&& ((((1 : Int64) <<< (v38.toInt64 &&& 63)) - (1 : Int64)) <<< ((0 : Int32).toInt64 &&& 63)))) rfl (s_v (pc := 51) rw_129_51 (dp0 hd (by decide)) (ls0 := [.ref 17, .int k, .long (x &&& ((((1 : Int64) <<< (v38.toInt64 &&& 63)) - (1 : Int64)) <<< ((0 : Int32).toInt64 &&& 63))), .null, .null, .null, .null]) rfl (Nat.le_of_ble_eq_true rfl) (Nat.le_of_ble_eq_true rfl) rfl (to_rc rfl rfl rfl (g_o hG28 rfl)) rfl ?_))
      have j_41 := (PKc_f (fun a i z => F_n F27 (show ¬ (a = 27) by omega) rfl) (PKc_f (fun a i z => F_n F19 (show ¬ (11 ≤ a ∧ a ≤ 16) by omega) rfl) q10))
      refine E_27 hX (dp1 hd (by decide)) hG28 (by omega) (by omega) (by omega) (by omega) (by omega) (by omega) j_41 q11 (PLC_c (((F_n F27 (show ¬ (17 = 27) by decide) (F_n F19 (show ¬ (11 ≤ 17 ∧ 17 ≤ 16) by decide) rfl))).trans q13) (by omega) p_29) (x_ms_n (by omega) (by omega) (x_bwE (by omega) (by first | omega | decide))) (p := k) (x := (x &&& ((((1 : Int64) <<< (v38.toInt64 &&& 63)) - (1 : Int64)) <<< ((0 : Int32).toInt64 &&& 63)))) (P9 := P9) (K := (x_kn sg NN ((M.2.1 6 0).toInt).toNat)) (ca := ca) (ov := ov) (ho := sg.1) (n9 := n9) (fun r42 M46 hG44 F43 p_45 => ?_)
      have F47 := FR.c F31 F43 tg_146
      refine to_r0 (pc := 54) rw_129_54 ?_
      exact h r42 M46 hG44 F47 (x_drops_y (by omega) (by omega) (by omega) (show ((M.2.1 6 0).toInt) = nz by omega) (x_bwE (by omega) (by first | omega | decide)) p_45)
