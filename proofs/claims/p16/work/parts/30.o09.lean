theorem tg_196 {M M1 : mm_M} (F : FR (fun a i : Nat => a = 71 ∨ a = 76) M M1) : ∀ a i : Nat, (a = 68 ∨ a = 69 ∨ a = 73 ∨ a = 74) → M1.2.1 a i = M.2.1 a i := fun a i z => F_n F (show ¬ (a = 71 ∨ a = 76) by omega) rfl
theorem tg_197 {M M1 : mm_M} (F : FR (fun a i : Nat => 36 ≤ a ∧ a ≤ 38) M M1) : ∀ a i : Nat, PI_r a → M1.2.1 a i = M.2.1 a i := fun a i z => F_n F (show ¬ (36 ≤ a ∧ a ≤ 38) by omega) rfl
theorem tg_198 {M M1 : mm_M} (F : FR (fun a i : Nat => 36 ≤ a ∧ a ≤ 38) M M1) : ∀ a i : Nat, (7 ≤ a ∧ a ≤ 9) → M1.2.1 a i = M.2.1 a i := fun a i z => F_n F (show ¬ (36 ≤ a ∧ a ≤ 38) by omega) rfl
theorem tg_199 {M M1 : mm_M} (F : FR (fun a i : Nat => 36 ≤ a ∧ a ≤ 38) M M1) : ∀ a i : Nat, (a = 68 ∨ a = 69 ∨ a = 73 ∨ a = 74) → M1.2.1 a i = M.2.1 a i := fun a i z => F_n F (show ¬ (36 ≤ a ∧ a ≤ 38) by omega) rfl
theorem tg_200 {M M1 : mm_M} (F : FR (fun a i : Nat => 39 ≤ a ∧ a ≤ 41) M M1) : ∀ a i : Nat, PI_r a → M1.2.1 a i = M.2.1 a i := fun a i z => F_n F (show ¬ (39 ≤ a ∧ a ≤ 41) by omega) rfl
theorem tg_201 {M M1 : mm_M} (F : FR (fun a i : Nat => 39 ≤ a ∧ a ≤ 41) M M1) : ∀ a i : Nat, (7 ≤ a ∧ a ≤ 9) → M1.2.1 a i = M.2.1 a i := fun a i z => F_n F (show ¬ (39 ≤ a ∧ a ≤ 41) by omega) rfl
theorem tg_202 {M M1 : mm_M} (F : FR (fun a i : Nat => 39 ≤ a ∧ a ≤ 41) M M1) : ∀ a i : Nat, (a = 68 ∨ a = 69 ∨ a = 73 ∨ a = 74) → M1.2.1 a i = M.2.1 a i := fun a i z => F_n F (show ¬ (39 ≤ a ∧ a ≤ 41) by omega) rfl
theorem tg_203 {M M1 : mm_M} (F : FR (fun a i : Nat => 43 ≤ a ∧ a ≤ 48) M M1) : ∀ a i : Nat, PI_r a → M1.2.1 a i = M.2.1 a i := fun a i z => F_n F (show ¬ (43 ≤ a ∧ a ≤ 48) by omega) rfl
theorem tg_204 {M M1 : mm_M} (F : FR (fun a i : Nat => 42 ≤ a ∧ a ≤ 48) M M1) : ∀ a i : Nat, PI_r a → M1.2.1 a i = M.2.1 a i := fun a i z => F_n F (show ¬ (42 ≤ a ∧ a ≤ 48) by omega) rfl
theorem tg_205 {M M1 : mm_M} (F : FR (fun a i : Nat => 43 ≤ a ∧ a ≤ 48) M M1) : ∀ a i : Nat, (7 ≤ a ∧ a ≤ 9) → M1.2.1 a i = M.2.1 a i := fun a i z => F_n F (show ¬ (43 ≤ a ∧ a ≤ 48) by omega) rfl
theorem tg_206 {M M1 : mm_M} (F : FR (fun a i : Nat => 42 ≤ a ∧ a ≤ 48) M M1) : ∀ a i : Nat, (7 ≤ a ∧ a ≤ 9) → M1.2.1 a i = M.2.1 a i := fun a i z => F_n F (show ¬ (42 ≤ a ∧ a ≤ 48) by omega) rfl
theorem tg_207 {M M1 : mm_M} (F : FR (fun a i : Nat => 43 ≤ a ∧ a ≤ 48) M M1) : ∀ a i : Nat, (a = 68 ∨ a = 69 ∨ a = 73 ∨ a = 74) → M1.2.1 a i = M.2.1 a i := fun a i z => F_n F (show ¬ (43 ≤ a ∧ a ≤ 48) by omega) rfl
theorem tg_208 {M M1 : mm_M} (F : FR (fun a i : Nat => 42 ≤ a ∧ a ≤ 48) M M1) : ∀ a i : Nat, (a = 68 ∨ a = 69 ∨ a = 73 ∨ a = 74) → M1.2.1 a i = M.2.1 a i := fun a i z => F_n F (show ¬ (42 ≤ a ∧ a ≤ 48) by omega) rfl
theorem tg_209 : ∀ a i : Nat, (18 ≤ a ∧ a ≤ 27) → (11 ≤ a ∧ a ≤ 16 ∨ 18 ≤ a ∧ a ≤ 48 ∨ 67 ≤ a ∧ a ≤ 76) := fun a i z => by omega
theorem tg_210 : ∀ a i : Nat, (18 ≤ a ∧ a ≤ 27) → (17 ≤ a ∧ a ≤ 27) := fun a i z => by omega
theorem tg_211 : ∀ a i : Nat, (17 ≤ a ∧ a ≤ 27) → (17 ≤ a ∧ a ≤ 27) := fun a i z => by omega
theorem tg_212 : ∀ a i : Nat, (11 ≤ a ∧ a ≤ 16) → (11 ≤ a ∧ a ≤ 16 ∨ a = 71 ∨ a = 76) := fun a i z => by omega
theorem tg_213 : ∀ a i : Nat, (a = 71 ∨ a = 76) → (11 ≤ a ∧ a ≤ 16 ∨ a = 71 ∨ a = 76) := fun a i z => by omega
theorem tg_214 : ∀ a i : Nat, (36 ≤ a ∧ a ≤ 38) → (11 ≤ a ∧ a ≤ 16 ∨ 18 ≤ a ∧ a ≤ 48 ∨ 67 ≤ a ∧ a ≤ 76) := fun a i z => by omega
theorem tg_215 : ∀ a i : Nat, (39 ≤ a ∧ a ≤ 41) → (11 ≤ a ∧ a ≤ 16 ∨ 18 ≤ a ∧ a ≤ 48 ∨ 67 ≤ a ∧ a ≤ 76) := fun a i z => by omega
theorem tg_216 : ∀ a i : Nat, (42 ≤ a ∧ a ≤ 48) → (11 ≤ a ∧ a ≤ 16 ∨ 18 ≤ a ∧ a ≤ 48 ∨ 67 ≤ a ∧ a ≤ 76) := fun a i z => by omega
theorem tg_217 : ∀ a i : Nat, (43 ≤ a ∧ a ≤ 48) → (11 ≤ a ∧ a ≤ 16 ∨ 18 ≤ a ∧ a ≤ 48 ∨ 67 ≤ a ∧ a ≤ 76) := fun a i z => by omega
set_option maxRecDepth 4000 in
set_option maxHeartbeats 0 in
theorem C_129 {X : mm_X} {d : Nat} {M : mm_M} {Q : Option Value → mm_M → Prop} {k : Int32} {x : Int64} {p : Nat} {pz : Nat} {q : Nat} {qz : Nat} (hX : g_X X) (hd : 6 ≤ d) (hG : g_G M) (hp : p = 49 ∨ p = 58) (hpz : pz = 49 ∨ pz = 58) (hq : q = 67 ∨ q = 72) (hqz : qz = 67 ∨ qz = 72) (q1 : g_PQ M p pz q qz) (q2 : NI M) (q3 : PI M) (q4 : QI M) (h : ∀ (r : Int32) (M1 : mm_M), g_G M1 → FR md_y M M1 → PI M1 → NI M1 → QI M1 → Q (some (.int r)) M1) : mm_T X d 129 0 [.ref 0, .int k, .long x, .null] [] M Q := by
  have F0 : FR md_y M M := FR.rf
  refine to_in (pc := 0) rw_129_0 rfl (s_s (pc := 1) rw_129_1 (dp0 hd (by decide)) (ls0 := [.int k]) rfl (Nat.le_of_ble_eq_true rfl) (Nat.le_of_ble_eq_true rfl) rfl (to_rcs rfl rfl) rfl (to_in (pc := 0) rw_143_0 rfl (b_ilt (pc := 1) rw_143_1 (A := k.toInt) rfl (fun h1 => ?_) (fun h1 => ?_))))
  · refine to_c (pc := 14) rw_143_14 (x := (0 : Int32)) rfl rfl (s_r1 (pc := 15) rw_143_15 (A := 0) rfl (by decide) (b_ine_f (pc := 4) rw_129_4 (A := 0) rfl (by decide) (to_c (pc := 7) rw_129_7 (x := (-1 : Int32)) rfl rfl (to_r0 (pc := 8) rw_129_8 ?_))))
    have k_2 : (-1 : Int32).toInt = -1 := rfl
    exact h (-1 : Int32) M hG F0 q3 q2 q4
  · refine to_in (pc := 4) rw_143_4 rfl (to_c (pc := 5) rw_143_5 (x := (6 : Int32)) rfl rfl (b_cge (pc := 7) rw_143_7 (A := k.toInt) (B := 6) rfl rfl (fun h3 => ?_) (fun h3 => ?_)))
    · refine to_c (pc := 14) rw_143_14 (x := (0 : Int32)) rfl rfl (s_r1 (pc := 15) rw_143_15 (A := 0) rfl (by decide) (b_ine_f (pc := 4) rw_129_4 (A := 0) rfl (by decide) (to_c (pc := 7) rw_129_7 (x := (-1 : Int32)) rfl rfl (to_r0 (pc := 8) rw_129_8 ?_))))
      have k_4 : (-1 : Int32).toInt = -1 := rfl
      exact h (-1 : Int32) M hG F0 q3 q2 q4
    · refine to_c (pc := 10) rw_143_10 (x := (1 : Int32)) rfl rfl (to_go (pc := 11) rw_143_11 (s_r1 (pc := 15) rw_143_15 (A := 1) rfl (by decide) (b_ine_t (pc := 4) rw_129_4 (A := 1) rfl (by decide) (to_an (pc := 9) rw_129_9 rfl (s_v (pc := 10) rw_129_10 (dp0 hd (by decide)) (ls0 := [.ref 0]) rfl (Nat.le_of_ble_eq_true rfl) (Nat.le_of_ble_eq_true rfl) rfl (to_rc rfl rfl rfl (g_o hG rfl)) rfl (to_an (pc := 0) rw_142_0 rfl (s_gR (pc := 1) rw_142_1 hG rfl (v := 11) rfl (to_an (pc := 4) rw_142_4 rfl (tt_gR (pc := 5) rw_142_5 (g_o hG rfl) q1.1 (to_an (pc := 8) rw_142_8 rfl (s_gR (pc := 9) rw_142_9 hG rfl (v := 6) rfl ?_)))))))))))
      refine to_an (pc := 12) rw_142_12 rfl (s_gR (pc := 13) rw_142_13 hG rfl (v := 6) rfl ?_)
      have b_5 := g_b hG (a := 6) (i := 0) (lo := 0) (hi := 150) rfl rfl
      refine tt_gI (pc := 16) rw_142_16 (g_o hG rfl) (v := (M.2.1 6 0)) rfl (s_v (pc := 19) rw_142_19 (dp1 hd (by decide)) (ls0 := [.ref 11, .ref p, .ref 6, .int (M.2.1 6 0), .null]) rfl (Nat.le_of_ble_eq_true rfl) (Nat.le_of_ble_eq_true rfl) rfl (to_rc rfl rfl rfl (g_o hG rfl)) rfl (C_8 hX (dp2 hd (by decide)) hG hp (by omega) (by omega) q2 (p := p) (n := (M.2.1 6 0)) (fun M8 hG7 F6 => ?_)))
      have F9 := FR.c F0 F6 tg_190
      refine to_rv (pc := 22) rw_142_22 (to_an (pc := 13) rw_129_13 rfl (s_gR (pc := 14) rw_129_14 hG7 rfl (v := 17) rfl (to_an (pc := 17) rw_129_17 rfl (s_gR (pc := 18) rw_129_18 hG7 rfl (v := 11) rfl (to_an (pc := 21) rw_129_21 rfl ?_)))))
      have j_10 := (PQ_f F6 q1)
      refine tt_gR (pc := 22) rw_129_22 (g_o hG7 rfl) j_10.1 ?_
      have c_11 : M8.2.1 p 0 = (M.2.1 p 0) := (F_n F6 (show ¬ (11 ≤ p ∧ p ≤ 16) by omega) rfl)
      have b_12 := g_b hG (a := p) (i := 0) (lo := 10) (hi := 60) (by rcases hp with rfl | rfl <;> rfl) (by rcases hp with rfl | rfl <;> rfl)
      refine tt_gI (pc := 25) rw_129_25 (g_o hG7 (by rcases hp with rfl | rfl <;> rfl)) (v := (M.2.1 p 0)) c_11 (s_v (pc := 28) rw_129_28 (dp0 hd (by decide)) (ls0 := [.ref 17, .ref 11, .int (M.2.1 p 0), .null, .null]) rfl (Nat.le_of_ble_eq_true rfl) (Nat.le_of_ble_eq_true rfl) rfl (to_rc rfl rfl rfl (g_o hG7 rfl)) rfl (C_24 hX (dp1 hd (by decide)) hG7 (by omega) (y := (M.2.1 p 0)) (fun M15 hG14 F13 => ?_)))
      have F16 := FR.c F9 F13 tg_209
      refine to_an (pc := 31) rw_129_31 rfl (s_gR (pc := 32) rw_129_32 hG14 rfl (v := 17) rfl (to_in (pc := 35) rw_129_35 rfl (to_ln (pc := 36) rw_129_36 rfl rfl rfl (to_c (pc := 37) rw_129_37 (x := (0 : Int32)) rfl rfl (to_an (pc := 38) rw_129_38 rfl ?_)))))
      have j_17 := (PQ_f F13 j_10)
      refine tt_gR (pc := 39) rw_129_39 (g_o hG14 rfl) j_17.1 ?_
      have c_18 : M15.2.1 p 0 = (M.2.1 p 0) := (F_n F13 (show ¬ (18 ≤ p ∧ p ≤ 27) by omega) c_11)
      refine tt_gI (pc := 42) rw_129_42 (g_o hG14 (by rcases hp with rfl | rfl <;> rfl)) (v := (M.2.1 p 0)) c_18 (to_c (pc := 45) rw_129_45 (x := (1 : Int32)) rfl rfl (s_sub (pc := 46) rw_129_46 (A := (M.2.1 p 0).toInt) (B := 1) rfl rfl (by omega) (fun v19 e20 => s_s (pc := 47) rw_129_47 (dp0 hd (by decide)) (ls0 := [.int (0 : Int32), .int v19]) rfl (Nat.le_of_ble_eq_true rfl) (Nat.le_of_ble_eq_true rfl) rfl (to_rcs rfl rfl) rfl (s_cl (pc := 0) rw_144_0 rfl (fun l21 => to_in (pc := 1) rw_144_1 rfl (to_in (pc := 2) rw_144_2 rfl (s_sub (pc := 3) rw_144_3 (A := v19.toInt) (B := 0) rfl rfl (by omega) (fun v22 e23 => to_c (pc := 4) rw_144_4 (x := (1 : Int32)) rfl rfl (s_add (pc := 5) rw_144_5 (A := v22.toInt) (B := 1) rfl rfl (by omega) (fun v24 e25 => s_anyS (pc := 6) rw_144_6 (fun _ _ => rfl) (fun l26 => s_cl (pc := 7) rw_144_7 rfl (fun l27 => ?_))))))))))))
      refine s_anyL (pc := 8) rw_144_8 (fun _ _ => rfl) (fun l28 => to_in (pc := 9) rw_144_9 rfl (s_anyS (pc := 10) rw_144_10 (fun _ _ => rfl) (fun l29 => to_rl (pc := 11) rw_144_11 (s_anyL (pc := 50) rw_129_50 (fun _ _ => rfl) (fun l30 => s_v (pc := 51) rw_129_51 (dp0 hd (by decide)) (ls0 := [.ref 17, .int k, .long l30, .null, .null, .null, .null]) rfl (Nat.le_of_ble_eq_true rfl) (Nat.le_of_ble_eq_true rfl) rfl (to_rc rfl rfl rfl (g_o hG14 rfl)) rfl (C_27 hX (dp1 hd (by decide)) hG14 (by omega) (by omega) (p := k) (x := l30) (fun r31 M34 hG33 F32 => ?_)))))))
      have F35 := FR.c F16 F32 tg_192
      refine to_r0 (pc := 54) rw_129_54 ?_
      have j_36 := (PI_f (tg_99 F32) (PI_f (tg_167 F13) (PI_f (tg_169 F6) q3)))
      have j_37 := (NI_f (tg_98 F32) (NI_f (tg_171 F13) (NI_f (tg_122 F6) q2)))
      have j_38 := (QI_f (tg_100 F32) (QI_f (tg_174 F13) (QI_f (tg_176 F6) q4)))
      exact h r31 M34 hG33 F35 j_36 j_37 j_38
set_option maxRecDepth 4000 in
set_option maxHeartbeats 0 in
theorem T_130_0 {X : mm_X} {d : Nat} {M : mm_M} {Q : Option Value → mm_M → Prop} {p : Nat} {pz : Nat} {q : Nat} {qz : Nat} (hX : g_X X) (hd : 1 ≤ d) (hp : p = 49 ∨ p = 58) (hpz : pz = 49 ∨ pz = 58) (hq : q = 67 ∨ q = 72) (hqz : qz = 67 ∨ qz = 72) (q1 : g_PQ M p pz q qz) (q2 : PI M) (q3 : NI M) (q4 : QI M) (h : ∀ (r : Int32) (M1 : mm_M), g_G M1 → FR md_c M M1 → (r.toInt = (M.2.1 0 12).toInt) → ((M1.2.1 17 4).toInt = 0) → PI M1 → NI M1 → QI M1 → Q (some (.int r)) M1) : ∀ nn9 : Nat, (∀ (N : mm_M) (x1 : Int32), g_G N → FR md_c M N → (0 ≤ x1.toInt) → (x1.toInt ≤ 30) → ((N.2.1 0 12).toInt = (M.2.1 0 12).toInt) → ((N.2.1 17 4).toInt = 0) → (PI N) → (NI N) → (QI N) → 30 - x1.toInt < (nn9 : Int) → mm_T X d 130 9 [.ref 0, .int x1] [] N Q) := by
  intro nn9
  induction nn9 with
  | zero =>
    intro N x1 hG F0 g1 g2 g3 g4 g5 g6 g7 hm
    have b_1 := g_b hG (a := 0) (i := 12) (lo := 0) (hi := 30) rfl rfl
    exfalso; omega
  | succ nn9 ih =>
    intro N x1 hG F0 g1 g2 g3 g4 g5 g6 g7 hm
    have b_2 := g_b hG (a := 0) (i := 12) (lo := 0) (hi := 30) rfl rfl
    refine to_in (pc := 9) rw_130_9 rfl (to_an (pc := 10) rw_130_10 rfl (tt_gI (pc := 11) rw_130_11 (g_o hG rfl) (v := (N.2.1 0 12)) rfl (b_cge (pc := 14) rw_130_14 (A := x1.toInt) (B := (N.2.1 0 12).toInt) rfl rfl (fun h3 => ?_) (fun h3 => ?_))))
    · refine to_an (pc := 32) rw_130_32 rfl (tt_gI (pc := 33) rw_130_33 (g_o hG rfl) (v := (N.2.1 0 12)) rfl (to_r0 (pc := 36) rw_130_36 ?_))
      exact h (N.2.1 0 12) N hG F0 (by omega) (by omega) g5 g6 g7
    · refine to_an (pc := 17) rw_130_17 rfl (s_gR (pc := 18) rw_130_18 hG rfl (v := 17) rfl (to_c (pc := 21) rw_130_21 (x := (0 : Int32)) rfl rfl (to_in (pc := 22) rw_130_22 rfl (s_v (pc := 23) rw_130_23 (dp0 hd (by decide)) (ls0 := [.ref 17, .int (0 : Int32), .int x1]) rfl (Nat.le_of_ble_eq_true rfl) (Nat.le_of_ble_eq_true rfl) rfl (to_rc rfl rfl rfl (g_o hG rfl)) rfl ?_))))
      have k_4 : (0 : Int32).toInt = 0 := rfl
      refine C_23 hX (dp1 hd (by decide)) hG (by omega) (by omega) (by omega) (by omega) (p := (0 : Int32)) (c := x1) (fun M7 hG6 F5 => ?_)
      have F8 := FR.c F0 F5 tg_210
      refine s_inc (pc := 26) rw_130_26 (ls2 := fun v => [.ref 0, .int v]) rfl rfl (fun _ => rfl) (A := x1.toInt) (B := 1) rfl rfl (by omega) (fun v9 e10 => to_go (pc := 29) rw_130_29 ?_)
      have c_11 : M7.2.1 0 12 = (N.2.1 0 12) := (F_n F5 (show ¬ (18 ≤ 0 ∧ 0 ≤ 27) by decide) rfl)
      have t_12 : (M7.2.1 0 12).toInt = (N.2.1 0 12).toInt := congrArg Int32.toInt c_11
      have c_13 : M7.2.1 17 4 = (N.2.1 17 4) := (F_n F5 (show ¬ (18 ≤ 17 ∧ 17 ≤ 27) by decide) rfl)
      have t_14 : (M7.2.1 17 4).toInt = (N.2.1 17 4).toInt := congrArg Int32.toInt c_13
      have j_15 := (PI_f (tg_167 F5) g5)
      have j_16 := (NI_f (tg_171 F5) g6)
      have j_17 := (QI_f (tg_174 F5) g7)
      exact ih M7 v9 hG6 F8 (by omega) (by omega) (by omega) (by omega) j_15 j_16 j_17 (by omega)
set_option maxRecDepth 4000 in
set_option maxHeartbeats 0 in
theorem C_130 {X : mm_X} {d : Nat} {M : mm_M} {Q : Option Value → mm_M → Prop} {p : Nat} {pz : Nat} {q : Nat} {qz : Nat} (hX : g_X X) (hd : 1 ≤ d) (hG : g_G M) (hp : p = 49 ∨ p = 58) (hpz : pz = 49 ∨ pz = 58) (hq : q = 67 ∨ q = 72) (hqz : qz = 67 ∨ qz = 72) (q1 : g_PQ M p pz q qz) (q2 : PI M) (q3 : NI M) (q4 : QI M) (h : ∀ (r : Int32) (M1 : mm_M), g_G M1 → FR md_c M M1 → (r.toInt = (M.2.1 0 12).toInt) → ((M1.2.1 17 4).toInt = 0) → PI M1 → NI M1 → QI M1 → Q (some (.int r)) M1) : mm_T X d 130 0 [.ref 0, .null] [] M Q := by
  have F0 : FR md_c M M := FR.rf
  refine to_an (pc := 0) rw_130_0 rfl (s_gR (pc := 1) rw_130_1 hG rfl (v := 17) rfl (s_v (pc := 4) rw_130_4 (dp0 hd (by decide)) (ls0 := [.ref 17, .null]) rfl (Nat.le_of_ble_eq_true rfl) (Nat.le_of_ble_eq_true rfl) rfl (to_rc rfl rfl rfl (g_o hG rfl)) rfl (C_22 hX (dp1 hd (by decide)) hG  (fun M21 hG19 F18 p_20 => ?_))))
  have F22 := FR.c F0 F18 tg_211
  refine to_c (pc := 7) rw_130_7 (x := (0 : Int32)) rfl rfl (to_isn (pc := 8) rw_130_8 (ls2 := [.ref 0, .int (0 : Int32)]) rfl rfl ?_)
  have k_23 : (0 : Int32).toInt = 0 := rfl
  have c_24 : M21.2.1 0 12 = (M.2.1 0 12) := (F_n F18 (show ¬ (17 ≤ 0 ∧ 0 ≤ 27) by decide) rfl)
  have b_25 := g_b hG (a := 0) (i := 12) (lo := 0) (hi := 30) rfl rfl
  have t_26 : (M21.2.1 0 12).toInt = (M.2.1 0 12).toInt := congrArg Int32.toInt c_24
  have j_27 := (PI_f (tg_159 F18) q2)
  have j_28 := (NI_f (tg_160 F18) q3)
  have j_29 := (QI_f (tg_163 F18) q4)
  exact (T_130_0 (p := p) (pz := pz) (q := q) (qz := qz) hX hd hp hpz hq hqz q1 q2 q3 q4 h ((30 - (0 : Int32).toInt).toNat + 1)) M21 (0 : Int32) hG19 F22 (by omega) (by omega) (by omega) (by omega) j_27 j_28 j_29 (by omega)
set_option maxRecDepth 4000 in
set_option maxHeartbeats 0 in
theorem C_131 {X : mm_X} {d : Nat} {M : mm_M} {Q : Option Value → mm_M → Prop} {n : Int32} {w : Int32} {p : Nat} {pz : Nat} {q : Nat} {qz : Nat} (hX : g_X X) (hd : 6 ≤ d) (hG : g_G M) (hp : p = 49 ∨ p = 58) (hpz : pz = 49 ∨ pz = 58) (hq : q = 67 ∨ q = 72) (hqz : qz = 67 ∨ qz = 72) (q1 : g_PQ M p pz q qz) (q2 : NI M) (q3 : QI M) (h : ∀ (r : Int32) (M1 : mm_M), g_G M1 → FR md_ak M M1 → Q (some (.int r)) M1) : mm_T X d 131 0 [.ref 0, .int n, .int w, .null, .null] [] M Q := by
  have F0 : FR md_ak M M := FR.rf
  refine to_an (pc := 0) rw_131_0 rfl (to_in (pc := 1) rw_131_1 rfl (s_v (pc := 2) rw_131_2 (dp0 hd (by decide)) (ls0 := [.ref 0, .int n]) rfl (Nat.le_of_ble_eq_true rfl) (Nat.le_of_ble_eq_true rfl) rfl (to_rc rfl rfl rfl (g_o hG rfl)) rfl (to_in (pc := 0) rw_139_0 rfl (b_ilt (pc := 1) rw_139_1 (A := n.toInt) rfl (fun h1 => ?_) (fun h1 => ?_)))))
  · refine to_c (pc := 19) rw_139_19 (x := (0 : Int32)) rfl rfl (s_r1 (pc := 20) rw_139_20 (A := 0) rfl (by decide) (b_ieq_t (pc := 5) rw_131_5 (A := 0) rfl (by decide) (to_c (pc := 27) rw_131_27 (x := (-1 : Int32)) rfl rfl (to_r0 (pc := 28) rw_131_28 ?_))))
    have k_2 : (-1 : Int32).toInt = -1 := rfl
    exact h (-1 : Int32) M hG F0 
  · refine to_in (pc := 4) rw_139_4 rfl (to_an (pc := 5) rw_139_5 rfl (s_gR (pc := 6) rw_139_6 hG rfl (v := 6) rfl ?_))
    have b_3 := g_b hG (a := 6) (i := 0) (lo := 0) (hi := 150) rfl rfl
    refine tt_gI (pc := 9) rw_139_9 (g_o hG rfl) (v := (M.2.1 6 0)) rfl (b_cgt (pc := 12) rw_139_12 (A := n.toInt) (B := (M.2.1 6 0).toInt) rfl rfl (fun h4 => ?_) (fun h4 => ?_))
    · refine to_c (pc := 19) rw_139_19 (x := (0 : Int32)) rfl rfl (s_r1 (pc := 20) rw_139_20 (A := 0) rfl (by decide) (b_ieq_t (pc := 5) rw_131_5 (A := 0) rfl (by decide) (to_c (pc := 27) rw_131_27 (x := (-1 : Int32)) rfl rfl (to_r0 (pc := 28) rw_131_28 ?_))))
      have k_5 : (-1 : Int32).toInt = -1 := rfl
      exact h (-1 : Int32) M hG F0 
    · refine to_c (pc := 15) rw_139_15 (x := (1 : Int32)) rfl rfl (to_go (pc := 16) rw_139_16 (s_r1 (pc := 20) rw_139_20 (A := 1) rfl (by decide) (b_ieq_f (pc := 5) rw_131_5 (A := 1) rfl (by decide) (to_in (pc := 8) rw_131_8 rfl (b_ilt (pc := 9) rw_131_9 (A := w.toInt) rfl (fun h6 => ?_) (fun h6 => ?_))))))
      · refine to_c (pc := 27) rw_131_27 (x := (-1 : Int32)) rfl rfl (to_r0 (pc := 28) rw_131_28 ?_)
        have k_7 : (-1 : Int32).toInt = -1 := rfl
        exact h (-1 : Int32) M hG F0 
      · refine to_in (pc := 12) rw_131_12 rfl (to_c (pc := 13) rw_131_13 (x := (3 : Int32)) rfl rfl (b_cgt (pc := 14) rw_131_14 (A := w.toInt) (B := 3) rfl rfl (fun h8 => ?_) (fun h8 => ?_)))
        · refine to_c (pc := 27) rw_131_27 (x := (-1 : Int32)) rfl rfl (to_r0 (pc := 28) rw_131_28 ?_)
          have k_9 : (-1 : Int32).toInt = -1 := rfl
          exact h (-1 : Int32) M hG F0 
        · refine to_an (pc := 17) rw_131_17 rfl (tt_gR (pc := 18) rw_131_18 (g_o hG rfl) q1.2.2.1 ?_)
          have b_10 := g_b hG (a := q) (i := 4) (lo := 0) (hi := 40) (by rcases hq with rfl | rfl <;> rfl) (by rcases hq with rfl | rfl <;> rfl)
          refine tt_gI (pc := 21) rw_131_21 (g_o hG (by rcases hq with rfl | rfl <;> rfl)) (v := (M.2.1 q 4)) rfl (b_ine (pc := 24) rw_131_24 (A := (M.2.1 q 4).toInt) rfl (fun h11 => ?_) (fun h11 => ?_))
          · refine to_an (pc := 29) rw_131_29 rfl (to_in (pc := 30) rw_131_30 rfl (s_v (pc := 31) rw_131_31 (dp0 hd (by decide)) (ls0 := [.ref 0, .int n]) rfl (Nat.le_of_ble_eq_true rfl) (Nat.le_of_ble_eq_true rfl) rfl (to_rc rfl rfl rfl (g_o hG rfl)) rfl (to_an (pc := 0) rw_141_0 rfl (s_gR (pc := 1) rw_141_1 hG rfl (v := 11) rfl (to_an (pc := 4) rw_141_4 rfl (tt_gR (pc := 5) rw_141_5 (g_o hG rfl) q1.1 (to_an (pc := 8) rw_141_8 rfl (s_gR (pc := 9) rw_141_9 hG rfl (v := 6) rfl (to_in (pc := 12) rw_141_12 rfl (s_v (pc := 13) rw_141_13 (dp1 hd (by decide)) (ls0 := [.ref 11, .ref p, .ref 6, .int n, .null]) rfl (Nat.le_of_ble_eq_true rfl) (Nat.le_of_ble_eq_true rfl) rfl (to_rc rfl rfl rfl (g_o hG rfl)) rfl (C_8 hX (dp2 hd (by decide)) hG hp (by omega) (by omega) q2 (p := p) (n := n) (fun M14 hG13 F12 => ?_))))))))))))
            have F15 := FR.c F0 F12 tg_212
            refine to_rv (pc := 16) rw_141_16 (to_an (pc := 34) rw_131_34 rfl ?_)
            have j_16 := (PQ_f F12 q1)
            refine tt_gR (pc := 35) rw_131_35 (g_o hG13 rfl) j_16.2.2.1 (to_an (pc := 38) rw_131_38 rfl (tt_gR (pc := 39) rw_131_39 (g_o hG13 rfl) j_16.1 (to_an (pc := 42) rw_131_42 rfl (s_gR (pc := 43) rw_131_43 hG13 rfl (v := 11) rfl (to_an (pc := 46) rw_131_46 rfl ?_)))))
            have c_17 : M14.2.1 0 12 = (M.2.1 0 12) := (F_n F12 (show ¬ (11 ≤ 0 ∧ 0 ≤ 16) by decide) rfl)
            have b_18 := g_b hG (a := 0) (i := 12) (lo := 0) (hi := 30) rfl rfl
            refine tt_gI (pc := 47) rw_131_47 (g_o hG13 rfl) (v := (M.2.1 0 12)) c_17 (to_c (pc := 50) rw_131_50 (x := (0 : Int32)) rfl rfl (s_v (pc := 51) rw_131_51 (dp0 hd (by decide)) (ls0 := [.ref q, .ref p, .ref 11, .int (M.2.1 0 12), .int (0 : Int32), .null, .null, .null, .null]) rfl (Nat.le_of_ble_eq_true rfl) (Nat.le_of_ble_eq_true rfl) rfl (to_rc rfl rfl rfl (g_o hG13 (by rcases hq with rfl | rfl <;> rfl))) rfl ?_))
            have k_19 : (0 : Int32).toInt = 0 := rfl
            have j_20 := (QI_f (tg_176 F12) q3)
            refine C_65 hX (dp1 hd (by decide)) hG13 hq hp (by omega) (by omega) (by omega) (by omega) j_20 (q := q) (p := p) (c := (M.2.1 0 12)) (t := (0 : Int32)) (fun r21 M24 hG23 F22 => ?_)
            have F25 := FR.c F15 F22 tg_213
            refine to_isn (pc := 54) rw_131_54 (ls2 := [.ref 0, .int n, .int w, .int r21, .null]) rfl rfl (to_an (pc := 55) rw_131_55 rfl ?_)
            have j_26 := (PQ_f F22 j_16)
            refine tt_gR (pc := 56) rw_131_56 (g_o hG23 rfl) j_26.2.2.1 (to_an (pc := 59) rw_131_59 rfl (tt_gR (pc := 60) rw_131_60 (g_o hG23 rfl) j_26.1 (to_an (pc := 63) rw_131_63 rfl (s_gR (pc := 64) rw_131_64 hG23 rfl (v := 11) rfl (to_an (pc := 67) rw_131_67 rfl ?_)))))
            have c_27 : M24.2.1 0 12 = (M.2.1 0 12) := (F_n F22 (show ¬ (0 = 71 ∨ 0 = 76) by decide) c_17)
            refine tt_gI (pc := 68) rw_131_68 (g_o hG23 rfl) (v := (M.2.1 0 12)) c_27 (to_c (pc := 71) rw_131_71 (x := (1 : Int32)) rfl rfl (s_v (pc := 72) rw_131_72 (dp0 hd (by decide)) (ls0 := [.ref q, .ref p, .ref 11, .int (M.2.1 0 12), .int (1 : Int32), .null, .null, .null, .null]) rfl (Nat.le_of_ble_eq_true rfl) (Nat.le_of_ble_eq_true rfl) rfl (to_rc rfl rfl rfl (g_o hG23 (by rcases hq with rfl | rfl <;> rfl))) rfl ?_))
            have k_28 : (1 : Int32).toInt = 1 := rfl
            have j_29 := (QI_f (tg_196 F22) j_20)
            refine C_65 hX (dp1 hd (by decide)) hG23 hq hp (by omega) (by omega) (by omega) (by omega) j_29 (q := q) (p := p) (c := (M.2.1 0 12)) (t := (1 : Int32)) (fun r30 M33 hG32 F31 => ?_)
            have F34 := FR.c F25 F31 tg_213
            refine to_is (pc := 75) rw_131_75 (ls2 := [.ref 0, .int n, .int w, .int r21, .int r30]) rfl rfl (to_in (pc := 77) rw_131_77 rfl ?_)
            rcases (show w.toInt = 0 ∨ w.toInt = 1 ∨ w.toInt = 2 ∨ (w.toInt < 0 ∨ 2 < w.toInt) by omega) with h35 | h35 | h35 | h35
            · refine s_sw (pc := 78) rw_131_78 (A := w.toInt) (k := 0) (t := 104) rfl h35 (by decide) rfl (to_in (pc := 104) rw_131_104 rfl (to_r0 (pc := 105) rw_131_105 ?_))
              exact h r21 M33 hG32 F34 
            · refine s_sw (pc := 78) rw_131_78 (A := w.toInt) (k := 1) (t := 106) rfl h35 (by decide) rfl (to_i (pc := 106) rw_131_106 rfl (to_r0 (pc := 108) rw_131_108 ?_))
              exact h r30 M33 hG32 F34 
            · refine s_sw (pc := 78) rw_131_78 (A := w.toInt) (k := 2) (t := 109) rfl h35 (by decide) rfl (to_in (pc := 109) rw_131_109 rfl (to_i (pc := 110) rw_131_110 rfl (to_c (pc := 112) rw_131_112 (x := (-1 : Int32)) rfl rfl (s_any (pc := 113) rw_131_113 (fun _ _ => rfl) (fun v36 => s_any (pc := 114) rw_131_114 (fun _ _ => rfl) (fun v37 => to_r0 (pc := 115) rw_131_115 ?_))))))
              exact h v37 M33 hG32 F34 
            · refine s_swd (pc := 78) rw_131_78 (A := w.toInt) rfl h35 (to_i (pc := 116) rw_131_116 rfl (to_in (pc := 118) rw_131_118 rfl (to_c (pc := 119) rw_131_119 (x := (-1 : Int32)) rfl rfl (s_any (pc := 120) rw_131_120 (fun _ _ => rfl) (fun v39 => s_any (pc := 121) rw_131_121 (fun _ _ => rfl) (fun v40 => to_r0 (pc := 122) rw_131_122 ?_))))))
              exact h v40 M33 hG32 F34 
          · refine to_c (pc := 27) rw_131_27 (x := (-1 : Int32)) rfl rfl (to_r0 (pc := 28) rw_131_28 ?_)
            have k_42 : (-1 : Int32).toInt = -1 := rfl
            exact h (-1 : Int32) M hG F0 
set_option maxRecDepth 4000 in
set_option maxHeartbeats 0 in
theorem T_132_0 {X : mm_X} {d : Nat} {M : mm_M} {Q : Option Value → mm_M → Prop} {n : Int32} {w : Int32} {k : Int32} {p : Nat} {pz : Nat} {q : Nat} {qz : Nat} (hX : g_X X) (hd : 6 ≤ d) (hp : p = 49 ∨ p = 58) (hpz : pz = 49 ∨ pz = 58) (hq : q = 67 ∨ q = 72) (hqz : qz = 67 ∨ qz = 72) (q1 : g_PQ M p pz q qz) (q2 : NI M) (q3 : PI M) (q4 : QI M) (h : ∀ (r : Int64) (M1 : mm_M), g_G M1 → FR md_y M M1 → PI M1 → NI M1 → QI M1 → Q (some (.long r)) M1) : ∀ nn9 : Nat, (∀ (N : mm_M) (u1 : Value) (u3 : Value) (x4 : Int32) (x5 : Int32) (y6 : Int64) (x8 : Int32), g_G N → FR md_y M N → (0 ≤ x8.toInt) → (x8.toInt ≤ 30) → (0 ≤ x4.toInt) → (x4.toInt ≤ 7) → (x5.toInt ≤ 24) → (g_PQ N p pz q qz) → (PI N) → (NI N) → (QI N) → 30 - x8.toInt < (nn9 : Int) → mm_T X d 132 86 [.ref 0, u1, .int w, u3, .int x4, .int x5, .long y6, .null, .int x8] [] N Q) := by
  intro nn9
  induction nn9 with
  | zero =>
    intro N u1 u3 x4 x5 y6 x8 hG F0 g1 g2 g3 g4 g5 g6 g7 g8 g9 hm
    exfalso; omega
  | succ nn9 ih =>
    intro N u1 u3 x4 x5 y6 x8 hG F0 g1 g2 g3 g4 g5 g6 g7 g8 g9 hm
    refine to_i (pc := 86) rw_132_86 rfl (to_an (pc := 88) rw_132_88 rfl ?_)
    have b_1 := g_b hG (a := 0) (i := 12) (lo := 0) (hi := 30) rfl rfl
    refine tt_gI (pc := 89) rw_132_89 (g_o hG rfl) (v := (N.2.1 0 12)) rfl (b_cge (pc := 92) rw_132_92 (A := x8.toInt) (B := (N.2.1 0 12).toInt) rfl rfl (fun h2 => ?_) (fun h2 => ?_))
    · refine to_l (pc := 147) rw_132_147 rfl rfl rfl (to_rl (pc := 149) rw_132_149 ?_)
      exact h y6 N hG F0 g7 g8 g9
    · refine to_an (pc := 95) rw_132_95 rfl (s_gR (pc := 96) rw_132_96 hG rfl (v := 11) rfl (to_i (pc := 99) rw_132_99 rfl (to_in (pc := 101) rw_132_101 rfl (s_v (pc := 102) rw_132_102 (dp0 hd (by decide)) (ls0 := [.ref 11, .int x8, .int w]) rfl (Nat.le_of_ble_eq_true rfl) (Nat.le_of_ble_eq_true rfl) rfl (to_rc rfl rfl rfl (g_o hG rfl)) rfl (to_an (pc := 0) rw_13_0 rfl (s_gR (pc := 1) rw_13_1 hG rfl (v := 13) rfl (to_in (pc := 4) rw_13_4 rfl (s_ial (pc := 5) rw_13_5 hG rfl (n := 30) rfl rfl (A := x8.toInt) rfl (by omega) (by omega) (lo := -2147483648) (hi := 2147483647) rfl rfl (fun v3 w_4 _ _ => to_in (pc := 6) rw_13_6 rfl (s_any (pc := 7) rw_13_7 (fun _ _ => rfl) (fun v5 => to_c (pc := 8) rw_13_8 (x := (1 : Int32)) rfl rfl ?_)))))))))))
      refine s_and (pc := 9) rw_13_9 (B := 1) rfl (by omega) (fun v6 e7 _ _ => b_ieq (pc := 10) rw_13_10 (A := v6.toInt) rfl (fun h8 => ?_) (fun h8 => ?_))
      · refine to_c (pc := 17) rw_13_17 (x := (0 : Int32)) rfl rfl (s_r1 (pc := 18) rw_13_18 (A := 0) rfl (by decide) (b_ine_f (pc := 105) rw_132_105 (A := 0) rfl (by decide) (to_l (pc := 108) rw_132_108 rfl rfl rfl (to_an (pc := 110) rw_132_110 rfl (s_gR (pc := 111) rw_132_111 hG rfl (v := 11) rfl (s_gR (pc := 114) rw_132_114 hG rfl (v := 12) rfl (to_i (pc := 117) rw_132_117 rfl (s_lal (pc := 119) rw_132_119 hG rfl (n := 30) rfl (A := x8.toInt) rfl (by omega) (by omega) (fun l9 => to_an (pc := 120) rw_132_120 rfl (tt_gR (pc := 121) rw_132_121 (g_o hG rfl) g6.1 (to_i (pc := 124) rw_132_124 rfl ?_)))))))))))
        refine s_v (pc := 126) rw_132_126 (dp0 hd (by decide)) (ls0 := [.ref p, .int x4]) rfl (Nat.le_of_ble_eq_true rfl) (Nat.le_of_ble_eq_true rfl) rfl (to_rc rfl rfl rfl (g_o hG (by rcases hp with rfl | rfl <;> rfl))) rfl (to_an (pc := 0) rw_48_0 rfl (s_gR (pc := 1) rw_48_1 hG (by rcases hp with rfl | rfl <;> rfl) (v := (p + 3)) (by rcases hp with rfl | rfl <;> rfl) (to_in (pc := 4) rw_48_4 rfl (s_ial (pc := 5) rw_48_5 hG (by rcases hp with rfl | rfl <;> rfl) (n := 8) (by rcases hp with rfl | rfl <;> rfl) (by rcases hp with rfl | rfl <;> rfl) (A := x4.toInt) rfl (by omega) (by omega) (lo := 0) (hi := 59) (by rcases hp with rfl | rfl <;> rfl) (by rcases hp with rfl | rfl <;> rfl) (fun v10 w_11 _ _ => to_an (pc := 6) rw_48_6 rfl (s_gR (pc := 7) rw_48_7 hG (by rcases hp with rfl | rfl <;> rfl) (v := (p + 4)) (by rcases hp with rfl | rfl <;> rfl) (to_in (pc := 10) rw_48_10 rfl (s_ial (pc := 11) rw_48_11 hG (by rcases hp with rfl | rfl <;> rfl) (n := 8) (by rcases hp with rfl | rfl <;> rfl) (by rcases hp with rfl | rfl <;> rfl) (A := x4.toInt) rfl (by omega) (by omega) (lo := 0) (hi := 63) (by rcases hp with rfl | rfl <;> rfl) (by rcases hp with rfl | rfl <;> rfl) (fun v12 w_13 _ _ => s_s (pc := 12) rw_48_12 (dp1 hd (by decide)) (ls0 := [.int v10, .int v12]) rfl (Nat.le_of_ble_eq_true rfl) (Nat.le_of_ble_eq_true rfl) rfl (to_rcs rfl rfl) rfl (s_cl (pc := 0) rw_144_0 rfl (fun l14 => to_in (pc := 1) rw_144_1 rfl ?_)))))))))))
        refine to_in (pc := 2) rw_144_2 rfl (s_sub (pc := 3) rw_144_3 (A := v12.toInt) (B := v10.toInt) rfl rfl (by omega) (fun v15 e16 => to_c (pc := 4) rw_144_4 (x := (1 : Int32)) rfl rfl (s_add (pc := 5) rw_144_5 (A := v15.toInt) (B := 1) rfl rfl (by omega) (fun v17 e18 => s_anyS (pc := 6) rw_144_6 (fun _ _ => rfl) (fun l19 => s_cl (pc := 7) rw_144_7 rfl (fun l20 => s_anyL (pc := 8) rw_144_8 (fun _ _ => rfl) (fun l21 => to_in (pc := 9) rw_144_9 rfl (s_anyS (pc := 10) rw_144_10 (fun _ _ => rfl) (fun l22 => to_rl (pc := 11) rw_144_11 (to_rl (pc := 15) rw_48_15 (s_anyL (pc := 129) rw_132_129 (fun _ _ => rfl) (fun l23 => ?_))))))))))))
        refine s_s (pc := 130) rw_132_130 (dp0 hd (by decide)) (ls0 := [.long l23, .null]) rfl (Nat.le_of_ble_eq_true rfl) (Nat.le_of_ble_eq_true rfl) rfl (to_rcs rfl rfl) rfl (C_248 hX (dp1 hd (by decide)) hG (x := l23) (fun r24 M27 hG26 F25 => ?_))
        have F28 := FR.c F0 F25 tg_192
        refine to_i (pc := 133) rw_132_133 rfl (s_s (pc := 135) rw_132_135 (dp0 hd (by decide)) (ls0 := [.int r24, .int x5, .null, .null, .null]) rfl (Nat.le_of_ble_eq_true rfl) (Nat.le_of_ble_eq_true rfl) rfl (to_rcs rfl rfl) rfl (C_145 hX (dp1 hd (by decide)) hG26 (by omega) (a := r24) (c := x5) (fun r29 M32 hG31 F30 => ?_)))
        have F33 := FR.c F28 F30 tg_192
        refine s_anyL (pc := 138) rw_132_138 (fun _ _ => rfl) (fun l34 => to_ls (pc := 139) rw_132_139 (ls2 := [.ref 0, u1, .int w, u3, .int x4, .int x5, .long l34, .null, .int x8]) rfl rfl (s_inc (pc := 141) rw_132_141 (ls2 := fun v => [.ref 0, u1, .int w, u3, .int x4, .int x5, .long l34, .null, .int v]) rfl rfl (fun _ => rfl) (A := x8.toInt) (B := 1) rfl rfl (by omega) (fun v35 e36 => to_go (pc := 144) rw_132_144 ?_)))
        have j_37 := (PQ_f F30 (PQ_f F25 g6))
        have j_38 := (PI_f (tg_99 F30) (PI_f (tg_99 F25) g7))
        have j_39 := (NI_f (tg_98 F30) (NI_f (tg_98 F25) g8))
        have j_40 := (QI_f (tg_100 F30) (QI_f (tg_100 F25) g9))
        exact ih M32 (u1) (u3) x4 x5 l34 v35 hG31 F33 (by omega) (by omega) (by omega) (by omega) (by omega) j_37 j_38 j_39 j_40 (by omega)
      · refine to_c (pc := 13) rw_13_13 (x := (1 : Int32)) rfl rfl (to_go (pc := 14) rw_13_14 (s_r1 (pc := 18) rw_13_18 (A := 1) rfl (by decide) (b_ine_t (pc := 105) rw_132_105 (A := 1) rfl (by decide) (s_inc (pc := 141) rw_132_141 (ls2 := fun v => [.ref 0, u1, .int w, u3, .int x4, .int x5, .long y6, .null, .int v]) rfl rfl (fun _ => rfl) (A := x8.toInt) (B := 1) rfl rfl (by omega) (fun v41 e42 => to_go (pc := 144) rw_132_144 ?_)))))
        exact ih N (u1) (u3) x4 x5 y6 v41 hG F0 (by omega) (by omega) (by omega) (by omega) (by omega) g6 g7 g8 g9 (by omega)
set_option maxRecDepth 4000 in
set_option maxHeartbeats 0 in
theorem C_132 {X : mm_X} {d : Nat} {M : mm_M} {Q : Option Value → mm_M → Prop} {n : Int32} {w : Int32} {k : Int32} {p : Nat} {pz : Nat} {q : Nat} {qz : Nat} (hX : g_X X) (hd : 6 ≤ d) (hG : g_G M) (hp : p = 49 ∨ p = 58) (hpz : pz = 49 ∨ pz = 58) (hq : q = 67 ∨ q = 72) (hqz : qz = 67 ∨ qz = 72) (q1 : g_PQ M p pz q qz) (q2 : NI M) (q3 : PI M) (q4 : QI M) (h : ∀ (r : Int64) (M1 : mm_M), g_G M1 → FR md_y M M1 → PI M1 → NI M1 → QI M1 → Q (some (.long r)) M1) : mm_T X d 132 0 [.ref 0, .int n, .int w, .int k, .null, .null, .null, .null, .null] [] M Q := by
  have F0 : FR md_y M M := FR.rf
  refine to_an (pc := 0) rw_132_0 rfl (to_in (pc := 1) rw_132_1 rfl (s_v (pc := 2) rw_132_2 (dp0 hd (by decide)) (ls0 := [.ref 0, .int n]) rfl (Nat.le_of_ble_eq_true rfl) (Nat.le_of_ble_eq_true rfl) rfl (to_rc rfl rfl rfl (g_o hG rfl)) rfl (to_in (pc := 0) rw_139_0 rfl (b_ilt (pc := 1) rw_139_1 (A := n.toInt) rfl (fun h43 => ?_) (fun h43 => ?_)))))
  · refine to_c (pc := 19) rw_139_19 (x := (0 : Int32)) rfl rfl (s_r1 (pc := 20) rw_139_20 (A := 0) rfl (by decide) (b_ieq_t (pc := 5) rw_132_5 (A := 0) rfl (by decide) (s_cl (pc := 28) rw_132_28 rfl (fun l44 => to_rl (pc := 31) rw_132_31 ?_))))
    exact h l44 M hG F0 q3 q2 q4
  · refine to_in (pc := 4) rw_139_4 rfl (to_an (pc := 5) rw_139_5 rfl (s_gR (pc := 6) rw_139_6 hG rfl (v := 6) rfl ?_))
    have b_45 := g_b hG (a := 6) (i := 0) (lo := 0) (hi := 150) rfl rfl
    refine tt_gI (pc := 9) rw_139_9 (g_o hG rfl) (v := (M.2.1 6 0)) rfl (b_cgt (pc := 12) rw_139_12 (A := n.toInt) (B := (M.2.1 6 0).toInt) rfl rfl (fun h46 => ?_) (fun h46 => ?_))
    · refine to_c (pc := 19) rw_139_19 (x := (0 : Int32)) rfl rfl (s_r1 (pc := 20) rw_139_20 (A := 0) rfl (by decide) (b_ieq_t (pc := 5) rw_132_5 (A := 0) rfl (by decide) (s_cl (pc := 28) rw_132_28 rfl (fun l47 => to_rl (pc := 31) rw_132_31 ?_))))
      exact h l47 M hG F0 q3 q2 q4
    · refine to_c (pc := 15) rw_139_15 (x := (1 : Int32)) rfl rfl (to_go (pc := 16) rw_139_16 (s_r1 (pc := 20) rw_139_20 (A := 1) rfl (by decide) (b_ieq_f (pc := 5) rw_132_5 (A := 1) rfl (by decide) (to_an (pc := 8) rw_132_8 rfl (tt_gR (pc := 9) rw_132_9 (g_o hG rfl) q1.1 (to_in (pc := 12) rw_132_12 rfl (s_v (pc := 13) rw_132_13 (dp0 hd (by decide)) (ls0 := [.ref p, .int w]) rfl (Nat.le_of_ble_eq_true rfl) (Nat.le_of_ble_eq_true rfl) rfl (to_rc rfl rfl rfl (g_o hG (by rcases hp with rfl | rfl <;> rfl))) rfl (to_in (pc := 0) rw_44_0 rfl (b_ilt (pc := 1) rw_44_1 (A := w.toInt) rfl (fun h48 => ?_) (fun h48 => ?_))))))))))
      · refine to_c (pc := 16) rw_44_16 (x := (0 : Int32)) rfl rfl (s_r1 (pc := 17) rw_44_17 (A := 0) rfl (by decide) (b_ieq_t (pc := 16) rw_132_16 (A := 0) rfl (by decide) (s_cl (pc := 28) rw_132_28 rfl (fun l49 => to_rl (pc := 31) rw_132_31 ?_))))
        exact h l49 M hG F0 q3 q2 q4
      · refine to_in (pc := 4) rw_44_4 rfl (to_an (pc := 5) rw_44_5 rfl ?_)
        have b_50 := g_b hG (a := p) (i := 3) (lo := 0) (hi := 12) (by rcases hp with rfl | rfl <;> rfl) (by rcases hp with rfl | rfl <;> rfl)
        refine tt_gI (pc := 6) rw_44_6 (g_o hG (by rcases hp with rfl | rfl <;> rfl)) (v := (M.2.1 p 3)) rfl (b_cge (pc := 9) rw_44_9 (A := w.toInt) (B := (M.2.1 p 3).toInt) rfl rfl (fun h51 => ?_) (fun h51 => ?_))
        · refine to_c (pc := 16) rw_44_16 (x := (0 : Int32)) rfl rfl (s_r1 (pc := 17) rw_44_17 (A := 0) rfl (by decide) (b_ieq_t (pc := 16) rw_132_16 (A := 0) rfl (by decide) (s_cl (pc := 28) rw_132_28 rfl (fun l52 => to_rl (pc := 31) rw_132_31 ?_))))
          exact h l52 M hG F0 q3 q2 q4
        · refine to_c (pc := 12) rw_44_12 (x := (1 : Int32)) rfl rfl (to_go (pc := 13) rw_44_13 (s_r1 (pc := 17) rw_44_17 (A := 1) rfl (by decide) (b_ieq_f (pc := 16) rw_132_16 (A := 1) rfl (by decide) (to_in (pc := 19) rw_132_19 rfl (b_ilt (pc := 20) rw_132_20 (A := k.toInt) rfl (fun h53 => ?_) (fun h53 => ?_))))))
          · refine s_cl (pc := 28) rw_132_28 rfl (fun l54 => to_rl (pc := 31) rw_132_31 ?_)
            exact h l54 M hG F0 q3 q2 q4
          · refine to_in (pc := 23) rw_132_23 rfl (to_c (pc := 24) rw_132_24 (x := (1 : Int32)) rfl rfl (b_cle (pc := 25) rw_132_25 (A := k.toInt) (B := 1) rfl rfl (fun h55 => ?_) (fun h55 => ?_)))
            · refine to_an (pc := 32) rw_132_32 rfl (tt_gR (pc := 33) rw_132_33 (g_o hG rfl) q1.1 (s_gR (pc := 36) rw_132_36 hG (by rcases hp with rfl | rfl <;> rfl) (v := (p + 7)) (by rcases hp with rfl | rfl <;> rfl) (to_in (pc := 39) rw_132_39 rfl (s_ial (pc := 40) rw_132_40 hG (by rcases hp with rfl | rfl <;> rfl) (n := 12) (by rcases hp with rfl | rfl <;> rfl) (by rcases hp with rfl | rfl <;> rfl) (A := w.toInt) rfl (by omega) (by omega) (lo := 0) (hi := 7) (by rcases hp with rfl | rfl <;> rfl) (by rcases hp with rfl | rfl <;> rfl) (fun v56 w_57 _ _ => to_is (pc := 41) rw_132_41 (ls2 := [.ref 0, .int n, .int w, .int k, .int v56, .null, .null, .null, .null]) rfl rfl (to_an (pc := 43) rw_132_43 rfl (tt_gR (pc := 44) rw_132_44 (g_o hG rfl) q1.1 (s_gR (pc := 47) rw_132_47 hG (by rcases hp with rfl | rfl <;> rfl) (v := (p + 5)) (by rcases hp with rfl | rfl <;> rfl) (to_i (pc := 50) rw_132_50 rfl (s_ial (pc := 52) rw_132_52 hG (by rcases hp with rfl | rfl <;> rfl) (n := 8) (by rcases hp with rfl | rfl <;> rfl) (by rcases hp with rfl | rfl <;> rfl) (A := v56.toInt) rfl (by omega) (by omega) (lo := 0) (hi := 24) (by rcases hp with rfl | rfl <;> rfl) (by rcases hp with rfl | rfl <;> rfl) (fun v58 w_59 _ _ => to_is (pc := 53) rw_132_53 (ls2 := [.ref 0, .int n, .int w, .int k, .int v56, .int v58, .null, .null, .null]) rfl rfl ?_)))))))))))
              refine to_in (pc := 55) rw_132_55 rfl (to_c (pc := 56) rw_132_56 (x := (1 : Int32)) rfl rfl (b_cne (pc := 57) rw_132_57 (A := k.toInt) (B := 1) rfl rfl (fun h60 => ?_) (fun h60 => ?_)))
              · refine to_an (pc := 75) rw_132_75 rfl (to_in (pc := 76) rw_132_76 rfl (s_v (pc := 77) rw_132_77 (dp0 hd (by decide)) (ls0 := [.ref 0, .int n]) rfl (Nat.le_of_ble_eq_true rfl) (Nat.le_of_ble_eq_true rfl) rfl (to_rc rfl rfl rfl (g_o hG rfl)) rfl (to_an (pc := 0) rw_141_0 rfl (s_gR (pc := 1) rw_141_1 hG rfl (v := 11) rfl (to_an (pc := 4) rw_141_4 rfl (tt_gR (pc := 5) rw_141_5 (g_o hG rfl) q1.1 (to_an (pc := 8) rw_141_8 rfl (s_gR (pc := 9) rw_141_9 hG rfl (v := 6) rfl (to_in (pc := 12) rw_141_12 rfl (s_v (pc := 13) rw_141_13 (dp1 hd (by decide)) (ls0 := [.ref 11, .ref p, .ref 6, .int n, .null]) rfl (Nat.le_of_ble_eq_true rfl) (Nat.le_of_ble_eq_true rfl) rfl (to_rc rfl rfl rfl (g_o hG rfl)) rfl (C_8 hX (dp2 hd (by decide)) hG hp (by omega) (by omega) q2 (p := p) (n := n) (fun M63 hG62 F61 => ?_))))))))))))
                have F64 := FR.c F0 F61 tg_190
                refine to_rv (pc := 16) rw_141_16 (s_cl (pc := 80) rw_132_80 rfl (fun l65 => to_ls (pc := 81) rw_132_81 (ls2 := [.ref 0, .int n, .int w, .int k, .int v56, .int v58, .long l65, .null, .null]) rfl rfl (to_c (pc := 83) rw_132_83 (x := (0 : Int32)) rfl rfl (to_is (pc := 84) rw_132_84 (ls2 := [.ref 0, .int n, .int w, .int k, .int v56, .int v58, .long l65, .null, .int (0 : Int32)]) rfl rfl ?_))))
                have k_66 : (0 : Int32).toInt = 0 := rfl
                have j_67 := (PQ_f F61 q1)
                have j_68 := (PI_f (tg_169 F61) q3)
                have j_69 := (NI_f (tg_122 F61) q2)
                have j_70 := (QI_f (tg_176 F61) q4)
                exact (T_132_0 (n := n) (w := w) (k := k) (p := p) (pz := pz) (q := q) (qz := qz) hX hd hp hpz hq hqz q1 q2 q3 q4 h ((30 - (0 : Int32).toInt).toNat + 1)) M63 (.int n) (.int k) v56 v58 l65 (0 : Int32) hG62 F64 (by omega) (by omega) (by omega) (by omega) (by omega) j_67 j_68 j_69 j_70 (by omega)
              · refine to_an (pc := 60) rw_132_60 rfl (tt_gR (pc := 61) rw_132_61 (g_o hG rfl) q1.1 (to_i (pc := 64) rw_132_64 rfl (s_v (pc := 66) rw_132_66 (dp0 hd (by decide)) (ls0 := [.ref p, .int v56]) rfl (Nat.le_of_ble_eq_true rfl) (Nat.le_of_ble_eq_true rfl) rfl (to_rc rfl rfl rfl (g_o hG (by rcases hp with rfl | rfl <;> rfl))) rfl (to_an (pc := 0) rw_47_0 rfl (s_gR (pc := 1) rw_47_1 hG (by rcases hp with rfl | rfl <;> rfl) (v := (p + 4)) (by rcases hp with rfl | rfl <;> rfl) (to_in (pc := 4) rw_47_4 rfl (s_ial (pc := 5) rw_47_5 hG (by rcases hp with rfl | rfl <;> rfl) (n := 8) (by rcases hp with rfl | rfl <;> rfl) (by rcases hp with rfl | rfl <;> rfl) (A := v56.toInt) rfl (by omega) (by omega) (lo := 0) (hi := 63) (by rcases hp with rfl | rfl <;> rfl) (by rcases hp with rfl | rfl <;> rfl) (fun v71 w_72 _ _ => to_an (pc := 6) rw_47_6 rfl (s_gR (pc := 7) rw_47_7 hG (by rcases hp with rfl | rfl <;> rfl) (v := (p + 3)) (by rcases hp with rfl | rfl <;> rfl) (to_in (pc := 10) rw_47_10 rfl (s_ial (pc := 11) rw_47_11 hG (by rcases hp with rfl | rfl <;> rfl) (n := 8) (by rcases hp with rfl | rfl <;> rfl) (by rcases hp with rfl | rfl <;> rfl) (A := v56.toInt) rfl (by omega) (by omega) (lo := 0) (hi := 59) (by rcases hp with rfl | rfl <;> rfl) (by rcases hp with rfl | rfl <;> rfl) (fun v73 w_74 _ _ => ?_))))))))))))
                refine s_sub (pc := 12) rw_47_12 (A := v71.toInt) (B := v73.toInt) rfl rfl (by omega) (fun v75 e76 => to_c (pc := 13) rw_47_13 (x := (1 : Int32)) rfl rfl (s_add (pc := 14) rw_47_14 (A := v75.toInt) (B := 1) rfl rfl (by omega) (fun v77 e78 => to_r0 (pc := 15) rw_47_15 (to_i (pc := 69) rw_132_69 rfl (s_s (pc := 71) rw_132_71 (dp0 hd (by decide)) (ls0 := [.int v77, .int v58, .null, .null, .null]) rfl (Nat.le_of_ble_eq_true rfl) (Nat.le_of_ble_eq_true rfl) rfl (to_rcs rfl rfl) rfl (C_145 hX (dp1 hd (by decide)) hG (by omega) (a := v77) (c := v58) (fun r79 M82 hG81 F80 => ?_)))))))
                have F83 := FR.c F0 F80 tg_192
                refine to_rl (pc := 74) rw_132_74 ?_
                have j_84 := (PI_f (tg_99 F80) q3)
                have j_85 := (NI_f (tg_98 F80) q2)
                have j_86 := (QI_f (tg_100 F80) q4)
                exact h r79 M82 hG81 F83 j_84 j_85 j_86
            · refine s_cl (pc := 28) rw_132_28 rfl (fun l87 => to_rl (pc := 31) rw_132_31 ?_)
              exact h l87 M hG F0 q3 q2 q4
set_option maxRecDepth 4000 in
set_option maxHeartbeats 0 in
theorem T_133_0 {X : mm_X} {d : Nat} {M : mm_M} {Q : Option Value → mm_M → Prop} {n : Int32} {w : Int32} {p : Nat} {pz : Nat} {q : Nat} {qz : Nat} (hX : g_X X) (hd : 6 ≤ d) (hp : p = 49 ∨ p = 58) (hpz : pz = 49 ∨ pz = 58) (hq : q = 67 ∨ q = 72) (hqz : qz = 67 ∨ qz = 72) (q1 : g_PQ M p pz q qz) (q2 : NI M) (q3 : PI M) (q4 : QI M) (h : ∀ (r : Int32) (M1 : mm_M), g_G M1 → FR md_y M M1 → PI M1 → NI M1 → QI M1 → Q (some (.int r)) M1) : ∀ nn9 : Nat, (∀ (N : mm_M) (u1 : Value) (x3 : Int32) (x4 : Int32), g_G N → FR md_y M N → (0 ≤ x4.toInt) → (x4.toInt ≤ 30) → (0 ≤ w.toInt) → (w.toInt ≤ 11) → (PI N) → (NI N) → (QI N) → 30 - x4.toInt < (nn9 : Int) → mm_T X d 133 31 [.ref 0, u1, .int w, .int x3, .int x4] [] N Q) := by
  intro nn9
  induction nn9 with
  | zero =>
    intro N u1 x3 x4 hG F0 g1 g2 g3 g4 g5 g6 g7 hm
    exfalso; omega
  | succ nn9 ih =>
    intro N u1 x3 x4 hG F0 g1 g2 g3 g4 g5 g6 g7 hm
    refine to_i (pc := 31) rw_133_31 rfl (to_an (pc := 33) rw_133_33 rfl ?_)
    have b_1 := g_b hG (a := 0) (i := 12) (lo := 0) (hi := 30) rfl rfl
    refine tt_gI (pc := 34) rw_133_34 (g_o hG rfl) (v := (N.2.1 0 12)) rfl (b_cge (pc := 37) rw_133_37 (A := x4.toInt) (B := (N.2.1 0 12).toInt) rfl rfl (fun h2 => ?_) (fun h2 => ?_))
    · refine to_in (pc := 83) rw_133_83 rfl (to_r0 (pc := 84) rw_133_84 ?_)
      exact h x3 N hG F0 g5 g6 g7
    · refine to_an (pc := 40) rw_133_40 rfl (s_gR (pc := 41) rw_133_41 hG rfl (v := 11) rfl (to_i (pc := 44) rw_133_44 rfl (to_in (pc := 46) rw_133_46 rfl (s_v (pc := 47) rw_133_47 (dp0 hd (by decide)) (ls0 := [.ref 11, .int x4, .int w]) rfl (Nat.le_of_ble_eq_true rfl) (Nat.le_of_ble_eq_true rfl) rfl (to_rc rfl rfl rfl (g_o hG rfl)) rfl (to_an (pc := 0) rw_13_0 rfl (s_gR (pc := 1) rw_13_1 hG rfl (v := 13) rfl (to_in (pc := 4) rw_13_4 rfl (s_ial (pc := 5) rw_13_5 hG rfl (n := 30) rfl rfl (A := x4.toInt) rfl (by omega) (by omega) (lo := -2147483648) (hi := 2147483647) rfl rfl (fun v3 w_4 _ _ => to_in (pc := 6) rw_13_6 rfl (s_any (pc := 7) rw_13_7 (fun _ _ => rfl) (fun v5 => to_c (pc := 8) rw_13_8 (x := (1 : Int32)) rfl rfl ?_)))))))))))
      refine s_and (pc := 9) rw_13_9 (B := 1) rfl (by omega) (fun v6 e7 _ _ => b_ieq (pc := 10) rw_13_10 (A := v6.toInt) rfl (fun h8 => ?_) (fun h8 => ?_))
      · refine to_c (pc := 17) rw_13_17 (x := (0 : Int32)) rfl rfl (s_r1 (pc := 18) rw_13_18 (A := 0) rfl (by decide) (b_ine_f (pc := 50) rw_133_50 (A := 0) rfl (by decide) (to_an (pc := 53) rw_133_53 rfl (s_gR (pc := 54) rw_133_54 hG rfl (v := 11) rfl (to_i (pc := 57) rw_133_57 rfl (to_an (pc := 59) rw_133_59 rfl (s_gR (pc := 60) rw_133_60 hG rfl (v := 11) rfl (s_gR (pc := 63) rw_133_63 hG rfl (v := 15) rfl (to_in (pc := 66) rw_133_66 rfl (s_lal (pc := 67) rw_133_67 hG rfl (n := 12) rfl (A := w.toInt) rfl (by omega) (by omega) (fun l9 => s_v (pc := 68) rw_133_68 (dp0 hd (by decide)) (ls0 := [.ref 11, .int x4, .long l9, .null]) rfl (Nat.le_of_ble_eq_true rfl) (Nat.le_of_ble_eq_true rfl) rfl (to_rc rfl rfl rfl (g_o hG rfl)) rfl ?_)))))))))))
        refine to_an (pc := 0) rw_14_0 rfl (s_gR (pc := 1) rw_14_1 hG rfl (v := 12) rfl (to_in (pc := 4) rw_14_4 rfl (s_lal (pc := 5) rw_14_5 hG rfl (n := 30) rfl (A := x4.toInt) rfl (by omega) (by omega) (fun l10 => to_ln (pc := 6) rw_14_6 rfl rfl rfl (s_anyL (pc := 7) rw_14_7 (fun _ _ => rfl) (fun l11 => to_ln (pc := 8) rw_14_8 rfl rfl rfl (s_lcmp (pc := 9) rw_14_9 (fun v12 => b_ine (pc := 10) rw_14_10 (A := v12.toInt) rfl (fun h13 => ?_) (fun h13 => ?_)))))))))
        · refine to_c (pc := 17) rw_14_17 (x := (0 : Int32)) rfl rfl (s_r1 (pc := 18) rw_14_18 (A := 0) rfl (by decide) (b_ieq_t (pc := 71) rw_133_71 (A := 0) rfl (by decide) (s_inc (pc := 77) rw_133_77 (ls2 := fun v => [.ref 0, u1, .int w, .int x3, .int v]) rfl rfl (fun _ => rfl) (A := x4.toInt) (B := 1) rfl rfl (by omega) (fun v14 e15 => to_go (pc := 80) rw_133_80 ?_))))
          exact ih N (u1) x3 v14 hG F0 (by omega) (by omega) (by omega) (by omega) g5 g6 g7 (by omega)
        · refine to_c (pc := 13) rw_14_13 (x := (1 : Int32)) rfl rfl (to_go (pc := 14) rw_14_14 (s_r1 (pc := 18) rw_14_18 (A := 1) rfl (by decide) (b_ieq_f (pc := 71) rw_133_71 (A := 1) rfl (by decide) (s_incx (pc := 74) rw_133_74 (ls2 := fun v => [.ref 0, u1, .int w, .int v, .int x4]) rfl rfl (fun _ => rfl) (fun v16 => s_inc (pc := 77) rw_133_77 (ls2 := fun v => [.ref 0, u1, .int w, .int v16, .int v]) rfl rfl (fun _ => rfl) (A := x4.toInt) (B := 1) rfl rfl (by omega) (fun v18 e19 => to_go (pc := 80) rw_133_80 ?_))))))
          exact ih N (u1) v16 v18 hG F0 (by omega) (by omega) (by omega) (by omega) g5 g6 g7 (by omega)
      · refine to_c (pc := 13) rw_13_13 (x := (1 : Int32)) rfl rfl (to_go (pc := 14) rw_13_14 (s_r1 (pc := 18) rw_13_18 (A := 1) rfl (by decide) (b_ine_t (pc := 50) rw_133_50 (A := 1) rfl (by decide) (s_inc (pc := 77) rw_133_77 (ls2 := fun v => [.ref 0, u1, .int w, .int x3, .int v]) rfl rfl (fun _ => rfl) (A := x4.toInt) (B := 1) rfl rfl (by omega) (fun v20 e21 => to_go (pc := 80) rw_133_80 ?_)))))
        exact ih N (u1) x3 v20 hG F0 (by omega) (by omega) (by omega) (by omega) g5 g6 g7 (by omega)
set_option maxRecDepth 4000 in
set_option maxHeartbeats 0 in
theorem C_133 {X : mm_X} {d : Nat} {M : mm_M} {Q : Option Value → mm_M → Prop} {n : Int32} {w : Int32} {p : Nat} {pz : Nat} {q : Nat} {qz : Nat} (hX : g_X X) (hd : 6 ≤ d) (hG : g_G M) (hp : p = 49 ∨ p = 58) (hpz : pz = 49 ∨ pz = 58) (hq : q = 67 ∨ q = 72) (hqz : qz = 67 ∨ qz = 72) (q1 : g_PQ M p pz q qz) (q2 : NI M) (q3 : PI M) (q4 : QI M) (h : ∀ (r : Int32) (M1 : mm_M), g_G M1 → FR md_y M M1 → PI M1 → NI M1 → QI M1 → Q (some (.int r)) M1) : mm_T X d 133 0 [.ref 0, .int n, .int w, .null, .null] [] M Q := by
  have F0 : FR md_y M M := FR.rf
  refine to_an (pc := 0) rw_133_0 rfl (to_in (pc := 1) rw_133_1 rfl (s_v (pc := 2) rw_133_2 (dp0 hd (by decide)) (ls0 := [.ref 0, .int n]) rfl (Nat.le_of_ble_eq_true rfl) (Nat.le_of_ble_eq_true rfl) rfl (to_rc rfl rfl rfl (g_o hG rfl)) rfl (to_in (pc := 0) rw_139_0 rfl (b_ilt (pc := 1) rw_139_1 (A := n.toInt) rfl (fun h22 => ?_) (fun h22 => ?_)))))
  · refine to_c (pc := 19) rw_139_19 (x := (0 : Int32)) rfl rfl (s_r1 (pc := 20) rw_139_20 (A := 0) rfl (by decide) (b_ieq_t (pc := 5) rw_133_5 (A := 0) rfl (by decide) (to_c (pc := 19) rw_133_19 (x := (-1 : Int32)) rfl rfl (to_r0 (pc := 20) rw_133_20 ?_))))
    have k_23 : (-1 : Int32).toInt = -1 := rfl
    exact h (-1 : Int32) M hG F0 q3 q2 q4
  · refine to_in (pc := 4) rw_139_4 rfl (to_an (pc := 5) rw_139_5 rfl (s_gR (pc := 6) rw_139_6 hG rfl (v := 6) rfl ?_))
    have b_24 := g_b hG (a := 6) (i := 0) (lo := 0) (hi := 150) rfl rfl
    refine tt_gI (pc := 9) rw_139_9 (g_o hG rfl) (v := (M.2.1 6 0)) rfl (b_cgt (pc := 12) rw_139_12 (A := n.toInt) (B := (M.2.1 6 0).toInt) rfl rfl (fun h25 => ?_) (fun h25 => ?_))
    · refine to_c (pc := 19) rw_139_19 (x := (0 : Int32)) rfl rfl (s_r1 (pc := 20) rw_139_20 (A := 0) rfl (by decide) (b_ieq_t (pc := 5) rw_133_5 (A := 0) rfl (by decide) (to_c (pc := 19) rw_133_19 (x := (-1 : Int32)) rfl rfl (to_r0 (pc := 20) rw_133_20 ?_))))
      have k_26 : (-1 : Int32).toInt = -1 := rfl
      exact h (-1 : Int32) M hG F0 q3 q2 q4
    · refine to_c (pc := 15) rw_139_15 (x := (1 : Int32)) rfl rfl (to_go (pc := 16) rw_139_16 (s_r1 (pc := 20) rw_139_20 (A := 1) rfl (by decide) (b_ieq_f (pc := 5) rw_133_5 (A := 1) rfl (by decide) (to_an (pc := 8) rw_133_8 rfl (tt_gR (pc := 9) rw_133_9 (g_o hG rfl) q1.1 (to_in (pc := 12) rw_133_12 rfl (s_v (pc := 13) rw_133_13 (dp0 hd (by decide)) (ls0 := [.ref p, .int w]) rfl (Nat.le_of_ble_eq_true rfl) (Nat.le_of_ble_eq_true rfl) rfl (to_rc rfl rfl rfl (g_o hG (by rcases hp with rfl | rfl <;> rfl))) rfl (to_in (pc := 0) rw_44_0 rfl (b_ilt (pc := 1) rw_44_1 (A := w.toInt) rfl (fun h27 => ?_) (fun h27 => ?_))))))))))
      · refine to_c (pc := 16) rw_44_16 (x := (0 : Int32)) rfl rfl (s_r1 (pc := 17) rw_44_17 (A := 0) rfl (by decide) (b_ine_f (pc := 16) rw_133_16 (A := 0) rfl (by decide) (to_c (pc := 19) rw_133_19 (x := (-1 : Int32)) rfl rfl (to_r0 (pc := 20) rw_133_20 ?_))))
        have k_28 : (-1 : Int32).toInt = -1 := rfl
        exact h (-1 : Int32) M hG F0 q3 q2 q4
      · refine to_in (pc := 4) rw_44_4 rfl (to_an (pc := 5) rw_44_5 rfl ?_)
        have b_29 := g_b hG (a := p) (i := 3) (lo := 0) (hi := 12) (by rcases hp with rfl | rfl <;> rfl) (by rcases hp with rfl | rfl <;> rfl)
        refine tt_gI (pc := 6) rw_44_6 (g_o hG (by rcases hp with rfl | rfl <;> rfl)) (v := (M.2.1 p 3)) rfl (b_cge (pc := 9) rw_44_9 (A := w.toInt) (B := (M.2.1 p 3).toInt) rfl rfl (fun h30 => ?_) (fun h30 => ?_))
        · refine to_c (pc := 16) rw_44_16 (x := (0 : Int32)) rfl rfl (s_r1 (pc := 17) rw_44_17 (A := 0) rfl (by decide) (b_ine_f (pc := 16) rw_133_16 (A := 0) rfl (by decide) (to_c (pc := 19) rw_133_19 (x := (-1 : Int32)) rfl rfl (to_r0 (pc := 20) rw_133_20 ?_))))
          have k_31 : (-1 : Int32).toInt = -1 := rfl
          exact h (-1 : Int32) M hG F0 q3 q2 q4
        · refine to_c (pc := 12) rw_44_12 (x := (1 : Int32)) rfl rfl (to_go (pc := 13) rw_44_13 (s_r1 (pc := 17) rw_44_17 (A := 1) rfl (by decide) (b_ine_t (pc := 16) rw_133_16 (A := 1) rfl (by decide) (to_an (pc := 21) rw_133_21 rfl (to_in (pc := 22) rw_133_22 rfl (s_v (pc := 23) rw_133_23 (dp0 hd (by decide)) (ls0 := [.ref 0, .int n]) rfl (Nat.le_of_ble_eq_true rfl) (Nat.le_of_ble_eq_true rfl) rfl (to_rc rfl rfl rfl (g_o hG rfl)) rfl (to_an (pc := 0) rw_141_0 rfl (s_gR (pc := 1) rw_141_1 hG rfl (v := 11) rfl (to_an (pc := 4) rw_141_4 rfl (tt_gR (pc := 5) rw_141_5 (g_o hG rfl) q1.1 (to_an (pc := 8) rw_141_8 rfl ?_)))))))))))
          refine s_gR (pc := 9) rw_141_9 hG rfl (v := 6) rfl (to_in (pc := 12) rw_141_12 rfl (s_v (pc := 13) rw_141_13 (dp1 hd (by decide)) (ls0 := [.ref 11, .ref p, .ref 6, .int n, .null]) rfl (Nat.le_of_ble_eq_true rfl) (Nat.le_of_ble_eq_true rfl) rfl (to_rc rfl rfl rfl (g_o hG rfl)) rfl (C_8 hX (dp2 hd (by decide)) hG hp (by omega) (by omega) q2 (p := p) (n := n) (fun M34 hG33 F32 => ?_))))
          have F35 := FR.c F0 F32 tg_190
          refine to_rv (pc := 16) rw_141_16 (to_c (pc := 26) rw_133_26 (x := (0 : Int32)) rfl rfl (to_isn (pc := 27) rw_133_27 (ls2 := [.ref 0, .int n, .int w, .int (0 : Int32), .null]) rfl rfl (to_c (pc := 28) rw_133_28 (x := (0 : Int32)) rfl rfl (to_is (pc := 29) rw_133_29 (ls2 := [.ref 0, .int n, .int w, .int (0 : Int32), .int (0 : Int32)]) rfl rfl ?_))))
          have k_36 : (0 : Int32).toInt = 0 := rfl
          have j_37 := (PI_f (tg_169 F32) q3)
          have j_38 := (NI_f (tg_122 F32) q2)
          have j_39 := (QI_f (tg_176 F32) q4)
          exact (T_133_0 (n := n) (w := w) (p := p) (pz := pz) (q := q) (qz := qz) hX hd hp hpz hq hqz q1 q2 q3 q4 h ((30 - (0 : Int32).toInt).toNat + 1)) M34 (.int n) (0 : Int32) (0 : Int32) hG33 F35 (by omega) (by omega) (by omega) (by omega) j_37 j_38 j_39 (by omega)
set_option maxRecDepth 4000 in
set_option maxHeartbeats 0 in
theorem C_134 {X : mm_X} {d : Nat} {M : mm_M} {Q : Option Value → mm_M → Prop} {n : Int32} {w : Int32} {p : Nat} {pz : Nat} {q : Nat} {qz : Nat} (hX : g_X X) (hd : 28 ≤ d) (hG : g_G M) (hp : p = 49 ∨ p = 58) (hpz : pz = 49 ∨ pz = 58) (hq : q = 67 ∨ q = 72) (hqz : qz = 67 ∨ qz = 72) (q1 : g_PQ M p pz q qz) (q2 : NI M) (q3 : PI M) (q4 : QI M) (h : ∀ (r : Int32) (M1 : mm_M), g_G M1 → FR md_y M M1 → PI M1 → NI M1 → QI M1 → Q (some (.int r)) M1) : mm_T X d 134 0 [.ref 0, .int n, .int w] [] M Q := by
  have F0 : FR md_y M M := FR.rf
  refine to_an (pc := 0) rw_134_0 rfl (to_in (pc := 1) rw_134_1 rfl (s_v (pc := 2) rw_134_2 (dp0 hd (by decide)) (ls0 := [.ref 0, .int n]) rfl (Nat.le_of_ble_eq_true rfl) (Nat.le_of_ble_eq_true rfl) rfl (to_rc rfl rfl rfl (g_o hG rfl)) rfl (to_in (pc := 0) rw_139_0 rfl (b_ilt (pc := 1) rw_139_1 (A := n.toInt) rfl (fun h1 => ?_) (fun h1 => ?_)))))
  · refine to_c (pc := 19) rw_139_19 (x := (0 : Int32)) rfl rfl (s_r1 (pc := 20) rw_139_20 (A := 0) rfl (by decide) (b_ieq_t (pc := 5) rw_134_5 (A := 0) rfl (by decide) (to_c (pc := 19) rw_134_19 (x := (-1 : Int32)) rfl rfl (to_r0 (pc := 20) rw_134_20 ?_))))
    have k_2 : (-1 : Int32).toInt = -1 := rfl
    exact h (-1 : Int32) M hG F0 q3 q2 q4
  · refine to_in (pc := 4) rw_139_4 rfl (to_an (pc := 5) rw_139_5 rfl (s_gR (pc := 6) rw_139_6 hG rfl (v := 6) rfl ?_))
    have b_3 := g_b hG (a := 6) (i := 0) (lo := 0) (hi := 150) rfl rfl
    refine tt_gI (pc := 9) rw_139_9 (g_o hG rfl) (v := (M.2.1 6 0)) rfl (b_cgt (pc := 12) rw_139_12 (A := n.toInt) (B := (M.2.1 6 0).toInt) rfl rfl (fun h4 => ?_) (fun h4 => ?_))
    · refine to_c (pc := 19) rw_139_19 (x := (0 : Int32)) rfl rfl (s_r1 (pc := 20) rw_139_20 (A := 0) rfl (by decide) (b_ieq_t (pc := 5) rw_134_5 (A := 0) rfl (by decide) (to_c (pc := 19) rw_134_19 (x := (-1 : Int32)) rfl rfl (to_r0 (pc := 20) rw_134_20 ?_))))
      have k_5 : (-1 : Int32).toInt = -1 := rfl
      exact h (-1 : Int32) M hG F0 q3 q2 q4
    · refine to_c (pc := 15) rw_139_15 (x := (1 : Int32)) rfl rfl (to_go (pc := 16) rw_139_16 (s_r1 (pc := 20) rw_139_20 (A := 1) rfl (by decide) (b_ieq_f (pc := 5) rw_134_5 (A := 1) rfl (by decide) (to_an (pc := 8) rw_134_8 rfl (tt_gR (pc := 9) rw_134_9 (g_o hG rfl) q1.1 (to_in (pc := 12) rw_134_12 rfl (s_v (pc := 13) rw_134_13 (dp0 hd (by decide)) (ls0 := [.ref p, .int w]) rfl (Nat.le_of_ble_eq_true rfl) (Nat.le_of_ble_eq_true rfl) rfl (to_rc rfl rfl rfl (g_o hG (by rcases hp with rfl | rfl <;> rfl))) rfl (to_in (pc := 0) rw_44_0 rfl (b_ilt (pc := 1) rw_44_1 (A := w.toInt) rfl (fun h6 => ?_) (fun h6 => ?_))))))))))
      · refine to_c (pc := 16) rw_44_16 (x := (0 : Int32)) rfl rfl (s_r1 (pc := 17) rw_44_17 (A := 0) rfl (by decide) (b_ine_f (pc := 16) rw_134_16 (A := 0) rfl (by decide) (to_c (pc := 19) rw_134_19 (x := (-1 : Int32)) rfl rfl (to_r0 (pc := 20) rw_134_20 ?_))))
        have k_7 : (-1 : Int32).toInt = -1 := rfl
        exact h (-1 : Int32) M hG F0 q3 q2 q4
      · refine to_in (pc := 4) rw_44_4 rfl (to_an (pc := 5) rw_44_5 rfl ?_)
        have b_8 := g_b hG (a := p) (i := 3) (lo := 0) (hi := 12) (by rcases hp with rfl | rfl <;> rfl) (by rcases hp with rfl | rfl <;> rfl)
        refine tt_gI (pc := 6) rw_44_6 (g_o hG (by rcases hp with rfl | rfl <;> rfl)) (v := (M.2.1 p 3)) rfl (b_cge (pc := 9) rw_44_9 (A := w.toInt) (B := (M.2.1 p 3).toInt) rfl rfl (fun h9 => ?_) (fun h9 => ?_))
        · refine to_c (pc := 16) rw_44_16 (x := (0 : Int32)) rfl rfl (s_r1 (pc := 17) rw_44_17 (A := 0) rfl (by decide) (b_ine_f (pc := 16) rw_134_16 (A := 0) rfl (by decide) (to_c (pc := 19) rw_134_19 (x := (-1 : Int32)) rfl rfl (to_r0 (pc := 20) rw_134_20 ?_))))
          have k_10 : (-1 : Int32).toInt = -1 := rfl
          exact h (-1 : Int32) M hG F0 q3 q2 q4
        · refine to_c (pc := 12) rw_44_12 (x := (1 : Int32)) rfl rfl (to_go (pc := 13) rw_44_13 (s_r1 (pc := 17) rw_44_17 (A := 1) rfl (by decide) (b_ine_t (pc := 16) rw_134_16 (A := 1) rfl (by decide) (to_an (pc := 21) rw_134_21 rfl (to_in (pc := 22) rw_134_22 rfl (s_v (pc := 23) rw_134_23 (dp0 hd (by decide)) (ls0 := [.ref 0, .int n]) rfl (Nat.le_of_ble_eq_true rfl) (Nat.le_of_ble_eq_true rfl) rfl (to_rc rfl rfl rfl (g_o hG rfl)) rfl (to_an (pc := 0) rw_141_0 rfl (s_gR (pc := 1) rw_141_1 hG rfl (v := 11) rfl (to_an (pc := 4) rw_141_4 rfl (tt_gR (pc := 5) rw_141_5 (g_o hG rfl) q1.1 (to_an (pc := 8) rw_141_8 rfl ?_)))))))))))
          refine s_gR (pc := 9) rw_141_9 hG rfl (v := 6) rfl (to_in (pc := 12) rw_141_12 rfl (s_v (pc := 13) rw_141_13 (dp1 hd (by decide)) (ls0 := [.ref 11, .ref p, .ref 6, .int n, .null]) rfl (Nat.le_of_ble_eq_true rfl) (Nat.le_of_ble_eq_true rfl) rfl (to_rc rfl rfl rfl (g_o hG rfl)) rfl (C_8 hX (dp2 hd (by decide)) hG hp (by omega) (by omega) q2 (p := p) (n := n) (fun M13 hG12 F11 => ?_))))
          have F14 := FR.c F0 F11 tg_190
          refine to_rv (pc := 16) rw_141_16 (to_an (pc := 26) rw_134_26 rfl (s_gR (pc := 27) rw_134_27 hG12 rfl (v := 36) rfl (to_an (pc := 30) rw_134_30 rfl ?_)))
          have j_15 := (PQ_f F11 q1)
          refine tt_gR (pc := 31) rw_134_31 (g_o hG12 rfl) j_15.1 (to_an (pc := 34) rw_134_34 rfl (s_gR (pc := 35) rw_134_35 hG12 rfl (v := 11) rfl (to_an (pc := 38) rw_134_38 rfl ?_)))
          have c_16 : M13.2.1 0 12 = (M.2.1 0 12) := (F_n F11 (show ¬ (11 ≤ 0 ∧ 0 ≤ 16) by decide) rfl)
          have b_17 := g_b hG (a := 0) (i := 12) (lo := 0) (hi := 30) rfl rfl
          refine tt_gI (pc := 39) rw_134_39 (g_o hG12 rfl) (v := (M.2.1 0 12)) c_16 (to_in (pc := 42) rw_134_42 rfl (s_v (pc := 43) rw_134_43 (dp0 hd (by decide)) (ls0 := [.ref 36, .ref p, .ref 11, .int (M.2.1 0 12), .int w, .null, .null, .null, .null, .null]) rfl (Nat.le_of_ble_eq_true rfl) (Nat.le_of_ble_eq_true rfl) rfl (to_rc rfl rfl rfl (g_o hG12 rfl)) rfl (C_2 hX (dp1 hd (by decide)) hG12 hp (by omega) (by omega) (by omega) (by omega) (p := p) (c := (M.2.1 0 12)) (w := w) (fun r18 M21 hG20 F19 => ?_))))
          have F22 := FR.c F14 F19 tg_214
          refine to_r0 (pc := 46) rw_134_46 ?_
          have j_23 := (PI_f (tg_197 F19) (PI_f (tg_169 F11) q3))
          have j_24 := (NI_f (tg_198 F19) (NI_f (tg_122 F11) q2))
          have j_25 := (QI_f (tg_199 F19) (QI_f (tg_176 F11) q4))
          exact h r18 M21 hG20 F22 j_23 j_24 j_25
set_option maxRecDepth 4000 in
set_option maxHeartbeats 0 in
theorem C_135 {X : mm_X} {d : Nat} {M : mm_M} {Q : Option Value → mm_M → Prop} {n : Int32} {c : Int32} {f : Int32} {t : Int32} {w : Int32} {p : Nat} {pz : Nat} {q : Nat} {qz : Nat} (hX : g_X X) (hd : 16 ≤ d) (hG : g_G M) (hp : p = 49 ∨ p = 58) (hpz : pz = 49 ∨ pz = 58) (hq : q = 67 ∨ q = 72) (hqz : qz = 67 ∨ qz = 72) (q1 : g_PQ M p pz q qz) (q2 : NI M) (q3 : PI M) (q4 : QI M) (h : ∀ (r : Int32) (M1 : mm_M), g_G M1 → FR md_y M M1 → PI M1 → NI M1 → QI M1 → Q (some (.int r)) M1) : mm_T X d 135 0 [.ref 0, .int n, .int c, .int f, .int t, .int w] [] M Q := by
  have F0 : FR md_y M M := FR.rf
  refine to_an (pc := 0) rw_135_0 rfl (to_in (pc := 1) rw_135_1 rfl (s_v (pc := 2) rw_135_2 (dp0 hd (by decide)) (ls0 := [.ref 0, .int n]) rfl (Nat.le_of_ble_eq_true rfl) (Nat.le_of_ble_eq_true rfl) rfl (to_rc rfl rfl rfl (g_o hG rfl)) rfl (to_in (pc := 0) rw_139_0 rfl (b_ilt (pc := 1) rw_139_1 (A := n.toInt) rfl (fun h1 => ?_) (fun h1 => ?_)))))
  · refine to_c (pc := 19) rw_139_19 (x := (0 : Int32)) rfl rfl (s_r1 (pc := 20) rw_139_20 (A := 0) rfl (by decide) (b_ieq_t (pc := 5) rw_135_5 (A := 0) rfl (by decide) (to_c (pc := 27) rw_135_27 (x := (-2 : Int32)) rfl rfl (to_r0 (pc := 29) rw_135_29 ?_))))
    have k_2 : (-2 : Int32).toInt = -2 := rfl
    exact h (-2 : Int32) M hG F0 q3 q2 q4
  · refine to_in (pc := 4) rw_139_4 rfl (to_an (pc := 5) rw_139_5 rfl (s_gR (pc := 6) rw_139_6 hG rfl (v := 6) rfl ?_))
    have b_3 := g_b hG (a := 6) (i := 0) (lo := 0) (hi := 150) rfl rfl
    refine tt_gI (pc := 9) rw_139_9 (g_o hG rfl) (v := (M.2.1 6 0)) rfl (b_cgt (pc := 12) rw_139_12 (A := n.toInt) (B := (M.2.1 6 0).toInt) rfl rfl (fun h4 => ?_) (fun h4 => ?_))
    · refine to_c (pc := 19) rw_139_19 (x := (0 : Int32)) rfl rfl (s_r1 (pc := 20) rw_139_20 (A := 0) rfl (by decide) (b_ieq_t (pc := 5) rw_135_5 (A := 0) rfl (by decide) (to_c (pc := 27) rw_135_27 (x := (-2 : Int32)) rfl rfl (to_r0 (pc := 29) rw_135_29 ?_))))
      have k_5 : (-2 : Int32).toInt = -2 := rfl
      exact h (-2 : Int32) M hG F0 q3 q2 q4
    · refine to_c (pc := 15) rw_139_15 (x := (1 : Int32)) rfl rfl (to_go (pc := 16) rw_139_16 (s_r1 (pc := 20) rw_139_20 (A := 1) rfl (by decide) (b_ieq_f (pc := 5) rw_135_5 (A := 1) rfl (by decide) (to_an (pc := 8) rw_135_8 rfl (to_in (pc := 9) rw_135_9 rfl (s_v (pc := 10) rw_135_10 (dp0 hd (by decide)) (ls0 := [.ref 0, .int c]) rfl (Nat.le_of_ble_eq_true rfl) (Nat.le_of_ble_eq_true rfl) rfl (to_rc rfl rfl rfl (g_o hG rfl)) rfl (to_in (pc := 0) rw_140_0 rfl (b_ilt (pc := 1) rw_140_1 (A := c.toInt) rfl (fun h6 => ?_) (fun h6 => ?_)))))))))
      · refine to_c (pc := 16) rw_140_16 (x := (0 : Int32)) rfl rfl (s_r1 (pc := 17) rw_140_17 (A := 0) rfl (by decide) (b_ieq_t (pc := 13) rw_135_13 (A := 0) rfl (by decide) (to_c (pc := 27) rw_135_27 (x := (-2 : Int32)) rfl rfl (to_r0 (pc := 29) rw_135_29 ?_))))
        have k_7 : (-2 : Int32).toInt = -2 := rfl
        exact h (-2 : Int32) M hG F0 q3 q2 q4
      · refine to_in (pc := 4) rw_140_4 rfl (to_an (pc := 5) rw_140_5 rfl ?_)
        have b_8 := g_b hG (a := 0) (i := 12) (lo := 0) (hi := 30) rfl rfl
        refine tt_gI (pc := 6) rw_140_6 (g_o hG rfl) (v := (M.2.1 0 12)) rfl (b_cge (pc := 9) rw_140_9 (A := c.toInt) (B := (M.2.1 0 12).toInt) rfl rfl (fun h9 => ?_) (fun h9 => ?_))
        · refine to_c (pc := 16) rw_140_16 (x := (0 : Int32)) rfl rfl (s_r1 (pc := 17) rw_140_17 (A := 0) rfl (by decide) (b_ieq_t (pc := 13) rw_135_13 (A := 0) rfl (by decide) (to_c (pc := 27) rw_135_27 (x := (-2 : Int32)) rfl rfl (to_r0 (pc := 29) rw_135_29 ?_))))
          have k_10 : (-2 : Int32).toInt = -2 := rfl
          exact h (-2 : Int32) M hG F0 q3 q2 q4
        · refine to_c (pc := 12) rw_140_12 (x := (1 : Int32)) rfl rfl (to_go (pc := 13) rw_140_13 (s_r1 (pc := 17) rw_140_17 (A := 1) rfl (by decide) (b_ieq_f (pc := 13) rw_135_13 (A := 1) rfl (by decide) (to_an (pc := 16) rw_135_16 rfl (tt_gR (pc := 17) rw_135_17 (g_o hG rfl) q1.1 (to_in (pc := 20) rw_135_20 rfl (s_v (pc := 21) rw_135_21 (dp0 hd (by decide)) (ls0 := [.ref p, .int f]) rfl (Nat.le_of_ble_eq_true rfl) (Nat.le_of_ble_eq_true rfl) rfl (to_rc rfl rfl rfl (g_o hG (by rcases hp with rfl | rfl <;> rfl))) rfl (to_in (pc := 0) rw_43_0 rfl (b_ilt (pc := 1) rw_43_1 (A := f.toInt) rfl (fun h11 => ?_) (fun h11 => ?_))))))))))
          · refine to_c (pc := 16) rw_43_16 (x := (0 : Int32)) rfl rfl (s_r1 (pc := 17) rw_43_17 (A := 0) rfl (by decide) (b_ine_f (pc := 24) rw_135_24 (A := 0) rfl (by decide) (to_c (pc := 27) rw_135_27 (x := (-2 : Int32)) rfl rfl (to_r0 (pc := 29) rw_135_29 ?_))))
            have k_12 : (-2 : Int32).toInt = -2 := rfl
            exact h (-2 : Int32) M hG F0 q3 q2 q4
          · refine to_in (pc := 4) rw_43_4 rfl (to_an (pc := 5) rw_43_5 rfl ?_)
            have b_13 := g_b hG (a := p) (i := 2) (lo := 0) (hi := 8) (by rcases hp with rfl | rfl <;> rfl) (by rcases hp with rfl | rfl <;> rfl)
            refine tt_gI (pc := 6) rw_43_6 (g_o hG (by rcases hp with rfl | rfl <;> rfl)) (v := (M.2.1 p 2)) rfl (b_cge (pc := 9) rw_43_9 (A := f.toInt) (B := (M.2.1 p 2).toInt) rfl rfl (fun h14 => ?_) (fun h14 => ?_))
            · refine to_c (pc := 16) rw_43_16 (x := (0 : Int32)) rfl rfl (s_r1 (pc := 17) rw_43_17 (A := 0) rfl (by decide) (b_ine_f (pc := 24) rw_135_24 (A := 0) rfl (by decide) (to_c (pc := 27) rw_135_27 (x := (-2 : Int32)) rfl rfl (to_r0 (pc := 29) rw_135_29 ?_))))
              have k_15 : (-2 : Int32).toInt = -2 := rfl
              exact h (-2 : Int32) M hG F0 q3 q2 q4
            · refine to_c (pc := 12) rw_43_12 (x := (1 : Int32)) rfl rfl (to_go (pc := 13) rw_43_13 (s_r1 (pc := 17) rw_43_17 (A := 1) rfl (by decide) (b_ine_t (pc := 24) rw_135_24 (A := 1) rfl (by decide) (to_i (pc := 30) rw_135_30 rfl (b_ilt (pc := 32) rw_135_32 (A := t.toInt) rfl (fun h16 => ?_) (fun h16 => ?_))))))
              · refine to_c (pc := 53) rw_135_53 (x := (-2 : Int32)) rfl rfl (to_r0 (pc := 55) rw_135_55 ?_)
                have k_17 : (-2 : Int32).toInt = -2 := rfl
                exact h (-2 : Int32) M hG F0 q3 q2 q4
              · refine to_i (pc := 35) rw_135_35 rfl (to_c (pc := 37) rw_135_37 (x := (9 : Int32)) rfl rfl (b_cgt (pc := 39) rw_135_39 (A := t.toInt) (B := 9) rfl rfl (fun h18 => ?_) (fun h18 => ?_)))
                · refine to_c (pc := 53) rw_135_53 (x := (-2 : Int32)) rfl rfl (to_r0 (pc := 55) rw_135_55 ?_)
                  have k_19 : (-2 : Int32).toInt = -2 := rfl
                  exact h (-2 : Int32) M hG F0 q3 q2 q4
                · refine to_i (pc := 42) rw_135_42 rfl (b_ilt (pc := 44) rw_135_44 (A := w.toInt) rfl (fun h20 => ?_) (fun h20 => ?_))
                  · refine to_c (pc := 53) rw_135_53 (x := (-2 : Int32)) rfl rfl (to_r0 (pc := 55) rw_135_55 ?_)
                    have k_21 : (-2 : Int32).toInt = -2 := rfl
                    exact h (-2 : Int32) M hG F0 q3 q2 q4
                  · refine to_i (pc := 47) rw_135_47 rfl (to_c (pc := 49) rw_135_49 (x := (2 : Int32)) rfl rfl (b_cle (pc := 50) rw_135_50 (A := w.toInt) (B := 2) rfl rfl (fun h22 => ?_) (fun h22 => ?_)))
                    · refine to_an (pc := 56) rw_135_56 rfl (to_in (pc := 57) rw_135_57 rfl (s_v (pc := 58) rw_135_58 (dp0 hd (by decide)) (ls0 := [.ref 0, .int n]) rfl (Nat.le_of_ble_eq_true rfl) (Nat.le_of_ble_eq_true rfl) rfl (to_rc rfl rfl rfl (g_o hG rfl)) rfl (to_an (pc := 0) rw_141_0 rfl (s_gR (pc := 1) rw_141_1 hG rfl (v := 11) rfl (to_an (pc := 4) rw_141_4 rfl (tt_gR (pc := 5) rw_141_5 (g_o hG rfl) q1.1 (to_an (pc := 8) rw_141_8 rfl (s_gR (pc := 9) rw_141_9 hG rfl (v := 6) rfl (to_in (pc := 12) rw_141_12 rfl (s_v (pc := 13) rw_141_13 (dp1 hd (by decide)) (ls0 := [.ref 11, .ref p, .ref 6, .int n, .null]) rfl (Nat.le_of_ble_eq_true rfl) (Nat.le_of_ble_eq_true rfl) rfl (to_rc rfl rfl rfl (g_o hG rfl)) rfl (C_8 hX (dp2 hd (by decide)) hG hp (by omega) (by omega) q2 (p := p) (n := n) (fun M25 hG24 F23 => ?_))))))))))))
                      have F26 := FR.c F0 F23 tg_190
                      refine to_rv (pc := 16) rw_141_16 (to_an (pc := 61) rw_135_61 rfl ?_)
                      have j_27 := (PQ_f F23 q1)
                      refine tt_gR (pc := 62) rw_135_62 (g_o hG24 rfl) j_27.1 (to_in (pc := 65) rw_135_65 rfl (s_v (pc := 66) rw_135_66 (dp0 hd (by decide)) (ls0 := [.ref p, .int f]) rfl (Nat.le_of_ble_eq_true rfl) (Nat.le_of_ble_eq_true rfl) rfl (to_rc rfl rfl rfl (g_o hG24 (by rcases hp with rfl | rfl <;> rfl))) rfl (to_an (pc := 0) rw_45_0 rfl (s_gR (pc := 1) rw_45_1 hG24 (by rcases hp with rfl | rfl <;> rfl) (v := (p + 2)) (by rcases hp with rfl | rfl <;> rfl) (to_in (pc := 4) rw_45_4 rfl (s_ial (pc := 5) rw_45_5 hG24 (by rcases hp with rfl | rfl <;> rfl) (n := 8) (by rcases hp with rfl | rfl <;> rfl) (by rcases hp with rfl | rfl <;> rfl) (A := f.toInt) rfl (by omega) (by omega) (lo := 0) (hi := 3) (by rcases hp with rfl | rfl <;> rfl) (by rcases hp with rfl | rfl <;> rfl) (fun v28 w_29 _ _ => to_c (pc := 6) rw_45_6 (x := (3 : Int32)) rfl rfl (b_cne (pc := 7) rw_45_7 (A := v28.toInt) (B := 3) rfl rfl (fun h30 => ?_) (fun h30 => ?_)))))))))
                      · refine to_c (pc := 14) rw_45_14 (x := (0 : Int32)) rfl rfl (s_r1 (pc := 15) rw_45_15 (A := 0) rfl (by decide) (b_ieq_t (pc := 69) rw_135_69 (A := 0) rfl (by decide) (to_an (pc := 94) rw_135_94 rfl (s_gR (pc := 95) rw_135_95 hG24 rfl (v := 39) rfl (to_an (pc := 98) rw_135_98 rfl (tt_gR (pc := 99) rw_135_99 (g_o hG24 rfl) j_27.1 (to_an (pc := 102) rw_135_102 rfl (s_gR (pc := 103) rw_135_103 hG24 rfl (v := 11) rfl (to_in (pc := 106) rw_135_106 rfl (to_in (pc := 107) rw_135_107 rfl (to_i (pc := 108) rw_135_108 rfl ?_)))))))))))
                        refine s_v (pc := 110) rw_135_110 (dp0 hd (by decide)) (ls0 := [.ref 39, .ref p, .ref 11, .int c, .int f, .int t, .null, .null, .null, .null, .null]) rfl (Nat.le_of_ble_eq_true rfl) (Nat.le_of_ble_eq_true rfl) rfl (to_rc rfl rfl rfl (g_o hG24 rfl)) rfl (C_18 hX (dp1 hd (by decide)) hG24 hp (by omega) (by omega) (by omega) (by omega) (p := p) (c := c) (f := f) (t := t) (fun M33 hG32 F31 => ?_))
                        have F34 := FR.c F26 F31 tg_215
                        refine to_i (pc := 113) rw_135_113 rfl (b_ine (pc := 115) rw_135_115 (A := w.toInt) rfl (fun h35 => ?_) (fun h35 => ?_))
                        · refine to_i (pc := 126) rw_135_126 rfl (to_c (pc := 128) rw_135_128 (x := (1 : Int32)) rfl rfl (b_cne (pc := 129) rw_135_129 (A := w.toInt) (B := 1) rfl rfl (fun h36 => ?_) (fun h36 => ?_)))
                          · refine to_an (pc := 142) rw_135_142 rfl (s_gR (pc := 143) rw_135_143 hG32 rfl (v := 39) rfl (tt_gI (pc := 146) rw_135_146 (g_o hG32 rfl) (v := (M33.2.1 39 6)) rfl (to_r0 (pc := 149) rw_135_149 ?_)))
                            have j_37 := (PI_f (tg_200 F31) (PI_f (tg_169 F23) q3))
                            have j_38 := (NI_f (tg_201 F31) (NI_f (tg_122 F23) q2))
                            have j_39 := (QI_f (tg_202 F31) (QI_f (tg_176 F23) q4))
                            exact h (M33.2.1 39 6) M33 hG32 F34 j_37 j_38 j_39
                          · refine to_an (pc := 132) rw_135_132 rfl (s_gR (pc := 133) rw_135_133 hG32 rfl (v := 39) rfl (tt_gI (pc := 136) rw_135_136 (g_o hG32 rfl) (v := (M33.2.1 39 5)) rfl (to_go (pc := 139) rw_135_139 (to_r0 (pc := 149) rw_135_149 ?_))))
                            have j_40 := (PI_f (tg_200 F31) (PI_f (tg_169 F23) q3))
                            have j_41 := (NI_f (tg_201 F31) (NI_f (tg_122 F23) q2))
                            have j_42 := (QI_f (tg_202 F31) (QI_f (tg_176 F23) q4))
                            exact h (M33.2.1 39 5) M33 hG32 F34 j_40 j_41 j_42
                        · refine to_an (pc := 118) rw_135_118 rfl (s_gR (pc := 119) rw_135_119 hG32 rfl (v := 39) rfl (tt_gI (pc := 122) rw_135_122 (g_o hG32 rfl) (v := (M33.2.1 39 4)) rfl (to_r0 (pc := 125) rw_135_125 ?_)))
                          have j_43 := (PI_f (tg_200 F31) (PI_f (tg_169 F23) q3))
                          have j_44 := (NI_f (tg_201 F31) (NI_f (tg_122 F23) q2))
                          have j_45 := (QI_f (tg_202 F31) (QI_f (tg_176 F23) q4))
                          exact h (M33.2.1 39 4) M33 hG32 F34 j_43 j_44 j_45
                      · refine to_c (pc := 10) rw_45_10 (x := (1 : Int32)) rfl rfl (to_go (pc := 11) rw_45_11 (s_r1 (pc := 15) rw_45_15 (A := 1) rfl (by decide) (b_ieq_f (pc := 69) rw_135_69 (A := 1) rfl (by decide) (to_an (pc := 72) rw_135_72 rfl (s_gR (pc := 73) rw_135_73 hG24 rfl (v := 39) rfl (to_an (pc := 76) rw_135_76 rfl (tt_gR (pc := 77) rw_135_77 (g_o hG24 rfl) j_27.1 (to_an (pc := 80) rw_135_80 rfl (s_gR (pc := 81) rw_135_81 hG24 rfl (v := 11) rfl (to_in (pc := 84) rw_135_84 rfl (to_in (pc := 85) rw_135_85 rfl ?_)))))))))))
                        refine to_i (pc := 86) rw_135_86 rfl (s_v (pc := 88) rw_135_88 (dp0 hd (by decide)) (ls0 := [.ref 39, .ref p, .ref 11, .int c, .int f, .int t, .null, .null, .null]) rfl (Nat.le_of_ble_eq_true rfl) (Nat.le_of_ble_eq_true rfl) rfl (to_rc rfl rfl rfl (g_o hG24 rfl)) rfl (C_16 hX (dp1 hd (by decide)) hG24 hp (by omega) (by omega) (by omega) (by omega) (p := p) (c := c) (f := f) (t := t) (fun M48 hG47 F46 => ?_)))
                        have F49 := FR.c F26 F46 tg_215
                        refine to_go (pc := 91) rw_135_91 (to_i (pc := 113) rw_135_113 rfl (b_ine (pc := 115) rw_135_115 (A := w.toInt) rfl (fun h50 => ?_) (fun h50 => ?_)))
                        · refine to_i (pc := 126) rw_135_126 rfl (to_c (pc := 128) rw_135_128 (x := (1 : Int32)) rfl rfl (b_cne (pc := 129) rw_135_129 (A := w.toInt) (B := 1) rfl rfl (fun h51 => ?_) (fun h51 => ?_)))
                          · refine to_an (pc := 142) rw_135_142 rfl (s_gR (pc := 143) rw_135_143 hG47 rfl (v := 39) rfl (tt_gI (pc := 146) rw_135_146 (g_o hG47 rfl) (v := (M48.2.1 39 6)) rfl (to_r0 (pc := 149) rw_135_149 ?_)))
                            have j_52 := (PI_f (tg_200 F46) (PI_f (tg_169 F23) q3))
                            have j_53 := (NI_f (tg_201 F46) (NI_f (tg_122 F23) q2))
                            have j_54 := (QI_f (tg_202 F46) (QI_f (tg_176 F23) q4))
                            exact h (M48.2.1 39 6) M48 hG47 F49 j_52 j_53 j_54
                          · refine to_an (pc := 132) rw_135_132 rfl (s_gR (pc := 133) rw_135_133 hG47 rfl (v := 39) rfl (tt_gI (pc := 136) rw_135_136 (g_o hG47 rfl) (v := (M48.2.1 39 5)) rfl (to_go (pc := 139) rw_135_139 (to_r0 (pc := 149) rw_135_149 ?_))))
                            have j_55 := (PI_f (tg_200 F46) (PI_f (tg_169 F23) q3))
                            have j_56 := (NI_f (tg_201 F46) (NI_f (tg_122 F23) q2))
                            have j_57 := (QI_f (tg_202 F46) (QI_f (tg_176 F23) q4))
                            exact h (M48.2.1 39 5) M48 hG47 F49 j_55 j_56 j_57
                        · refine to_an (pc := 118) rw_135_118 rfl (s_gR (pc := 119) rw_135_119 hG47 rfl (v := 39) rfl (tt_gI (pc := 122) rw_135_122 (g_o hG47 rfl) (v := (M48.2.1 39 4)) rfl (to_r0 (pc := 125) rw_135_125 ?_)))
                          have j_58 := (PI_f (tg_200 F46) (PI_f (tg_169 F23) q3))
                          have j_59 := (NI_f (tg_201 F46) (NI_f (tg_122 F23) q2))
                          have j_60 := (QI_f (tg_202 F46) (QI_f (tg_176 F23) q4))
                          exact h (M48.2.1 39 4) M48 hG47 F49 j_58 j_59 j_60
                    · refine to_c (pc := 53) rw_135_53 (x := (-2 : Int32)) rfl rfl (to_r0 (pc := 55) rw_135_55 ?_)
                      have k_61 : (-2 : Int32).toInt = -2 := rfl
                      exact h (-2 : Int32) M hG F0 q3 q2 q4
set_option maxRecDepth 4000 in
set_option maxHeartbeats 0 in
theorem C_136 {X : mm_X} {d : Nat} {M : mm_M} {Q : Option Value → mm_M → Prop} {k : Int32} {f : Int32} {p : Nat} {pz : Nat} {q : Nat} {qz : Nat} (hX : g_X X) (hd : 6 ≤ d) (hG : g_G M) (hp : p = 49 ∨ p = 58) (hpz : pz = 49 ∨ pz = 58) (hq : q = 67 ∨ q = 72) (hqz : qz = 67 ∨ qz = 72) (q1 : g_PQ M p pz q qz) (q2 : NI M) (q3 : PI M) (q4 : QI M) (h : ∀ (r : Int32) (M1 : mm_M), g_G M1 → FR md_y M M1 → PI M1 → NI M1 → QI M1 → Q (some (.int r)) M1) : mm_T X d 136 0 [.ref 0, .int k, .int f] [] M Q := by
  have F0 : FR md_y M M := FR.rf
  refine to_in (pc := 0) rw_136_0 rfl (s_s (pc := 1) rw_136_1 (dp0 hd (by decide)) (ls0 := [.int k]) rfl (Nat.le_of_ble_eq_true rfl) (Nat.le_of_ble_eq_true rfl) rfl (to_rcs rfl rfl) rfl (to_in (pc := 0) rw_143_0 rfl (b_ilt (pc := 1) rw_143_1 (A := k.toInt) rfl (fun h1 => ?_) (fun h1 => ?_))))
  · refine to_c (pc := 14) rw_143_14 (x := (0 : Int32)) rfl rfl (s_r1 (pc := 15) rw_143_15 (A := 0) rfl (by decide) (b_ieq_t (pc := 4) rw_136_4 (A := 0) rfl (by decide) (to_c (pc := 29) rw_136_29 (x := (-1 : Int32)) rfl rfl (to_r0 (pc := 30) rw_136_30 ?_))))
    have k_2 : (-1 : Int32).toInt = -1 := rfl
    exact h (-1 : Int32) M hG F0 q3 q2 q4
  · refine to_in (pc := 4) rw_143_4 rfl (to_c (pc := 5) rw_143_5 (x := (6 : Int32)) rfl rfl (b_cge (pc := 7) rw_143_7 (A := k.toInt) (B := 6) rfl rfl (fun h3 => ?_) (fun h3 => ?_)))
    · refine to_c (pc := 14) rw_143_14 (x := (0 : Int32)) rfl rfl (s_r1 (pc := 15) rw_143_15 (A := 0) rfl (by decide) (b_ieq_t (pc := 4) rw_136_4 (A := 0) rfl (by decide) (to_c (pc := 29) rw_136_29 (x := (-1 : Int32)) rfl rfl (to_r0 (pc := 30) rw_136_30 ?_))))
      have k_4 : (-1 : Int32).toInt = -1 := rfl
      exact h (-1 : Int32) M hG F0 q3 q2 q4
    · refine to_c (pc := 10) rw_143_10 (x := (1 : Int32)) rfl rfl (to_go (pc := 11) rw_143_11 (s_r1 (pc := 15) rw_143_15 (A := 1) rfl (by decide) (b_ieq_f (pc := 4) rw_136_4 (A := 1) rfl (by decide) (to_an (pc := 7) rw_136_7 rfl (tt_gR (pc := 8) rw_136_8 (g_o hG rfl) q1.1 (to_in (pc := 11) rw_136_11 rfl (s_v (pc := 12) rw_136_12 (dp0 hd (by decide)) (ls0 := [.ref p, .int f]) rfl (Nat.le_of_ble_eq_true rfl) (Nat.le_of_ble_eq_true rfl) rfl (to_rc rfl rfl rfl (g_o hG (by rcases hp with rfl | rfl <;> rfl))) rfl (to_in (pc := 0) rw_43_0 rfl (b_ilt (pc := 1) rw_43_1 (A := f.toInt) rfl (fun h5 => ?_) (fun h5 => ?_))))))))))
      · refine to_c (pc := 16) rw_43_16 (x := (0 : Int32)) rfl rfl (s_r1 (pc := 17) rw_43_17 (A := 0) rfl (by decide) (b_ieq_t (pc := 15) rw_136_15 (A := 0) rfl (by decide) (to_c (pc := 29) rw_136_29 (x := (-1 : Int32)) rfl rfl (to_r0 (pc := 30) rw_136_30 ?_))))
        have k_6 : (-1 : Int32).toInt = -1 := rfl
        exact h (-1 : Int32) M hG F0 q3 q2 q4
      · refine to_in (pc := 4) rw_43_4 rfl (to_an (pc := 5) rw_43_5 rfl ?_)
        have b_7 := g_b hG (a := p) (i := 2) (lo := 0) (hi := 8) (by rcases hp with rfl | rfl <;> rfl) (by rcases hp with rfl | rfl <;> rfl)
        refine tt_gI (pc := 6) rw_43_6 (g_o hG (by rcases hp with rfl | rfl <;> rfl)) (v := (M.2.1 p 2)) rfl (b_cge (pc := 9) rw_43_9 (A := f.toInt) (B := (M.2.1 p 2).toInt) rfl rfl (fun h8 => ?_) (fun h8 => ?_))
        · refine to_c (pc := 16) rw_43_16 (x := (0 : Int32)) rfl rfl (s_r1 (pc := 17) rw_43_17 (A := 0) rfl (by decide) (b_ieq_t (pc := 15) rw_136_15 (A := 0) rfl (by decide) (to_c (pc := 29) rw_136_29 (x := (-1 : Int32)) rfl rfl (to_r0 (pc := 30) rw_136_30 ?_))))
          have k_9 : (-1 : Int32).toInt = -1 := rfl
          exact h (-1 : Int32) M hG F0 q3 q2 q4
        · refine to_c (pc := 12) rw_43_12 (x := (1 : Int32)) rfl rfl (to_go (pc := 13) rw_43_13 (s_r1 (pc := 17) rw_43_17 (A := 1) rfl (by decide) (b_ieq_f (pc := 15) rw_136_15 (A := 1) rfl (by decide) (to_an (pc := 18) rw_136_18 rfl (tt_gR (pc := 19) rw_136_19 (g_o hG rfl) q1.1 (to_in (pc := 22) rw_136_22 rfl (s_v (pc := 23) rw_136_23 (dp0 hd (by decide)) (ls0 := [.ref p, .int f]) rfl (Nat.le_of_ble_eq_true rfl) (Nat.le_of_ble_eq_true rfl) rfl (to_rc rfl rfl rfl (g_o hG (by rcases hp with rfl | rfl <;> rfl))) rfl (to_an (pc := 0) rw_45_0 rfl (s_gR (pc := 1) rw_45_1 hG (by rcases hp with rfl | rfl <;> rfl) (v := (p + 2)) (by rcases hp with rfl | rfl <;> rfl) (to_in (pc := 4) rw_45_4 rfl (s_ial (pc := 5) rw_45_5 hG (by rcases hp with rfl | rfl <;> rfl) (n := 8) (by rcases hp with rfl | rfl <;> rfl) (by rcases hp with rfl | rfl <;> rfl) (A := f.toInt) rfl (by omega) (by omega) (lo := 0) (hi := 3) (by rcases hp with rfl | rfl <;> rfl) (by rcases hp with rfl | rfl <;> rfl) (fun v10 w_11 _ _ => ?_))))))))))))
          refine to_c (pc := 6) rw_45_6 (x := (3 : Int32)) rfl rfl (b_cne (pc := 7) rw_45_7 (A := v10.toInt) (B := 3) rfl rfl (fun h12 => ?_) (fun h12 => ?_))
          · refine to_c (pc := 14) rw_45_14 (x := (0 : Int32)) rfl rfl (s_r1 (pc := 15) rw_45_15 (A := 0) rfl (by decide) (b_ieq_t (pc := 26) rw_136_26 (A := 0) rfl (by decide) (to_an (pc := 31) rw_136_31 rfl (s_v (pc := 32) rw_136_32 (dp0 hd (by decide)) (ls0 := [.ref 0]) rfl (Nat.le_of_ble_eq_true rfl) (Nat.le_of_ble_eq_true rfl) rfl (to_rc rfl rfl rfl (g_o hG rfl)) rfl (to_an (pc := 0) rw_142_0 rfl (s_gR (pc := 1) rw_142_1 hG rfl (v := 11) rfl (to_an (pc := 4) rw_142_4 rfl (tt_gR (pc := 5) rw_142_5 (g_o hG rfl) q1.1 (to_an (pc := 8) rw_142_8 rfl (s_gR (pc := 9) rw_142_9 hG rfl (v := 6) rfl (to_an (pc := 12) rw_142_12 rfl ?_)))))))))))
            refine s_gR (pc := 13) rw_142_13 hG rfl (v := 6) rfl ?_
            have b_13 := g_b hG (a := 6) (i := 0) (lo := 0) (hi := 150) rfl rfl
            refine tt_gI (pc := 16) rw_142_16 (g_o hG rfl) (v := (M.2.1 6 0)) rfl (s_v (pc := 19) rw_142_19 (dp1 hd (by decide)) (ls0 := [.ref 11, .ref p, .ref 6, .int (M.2.1 6 0), .null]) rfl (Nat.le_of_ble_eq_true rfl) (Nat.le_of_ble_eq_true rfl) rfl (to_rc rfl rfl rfl (g_o hG rfl)) rfl (C_8 hX (dp2 hd (by decide)) hG hp (by omega) (by omega) q2 (p := p) (n := (M.2.1 6 0)) (fun M16 hG15 F14 => ?_)))
            have F17 := FR.c F0 F14 tg_190
            refine to_rv (pc := 22) rw_142_22 (to_an (pc := 35) rw_136_35 rfl (s_gR (pc := 36) rw_136_36 hG15 rfl (v := 42) rfl (to_an (pc := 39) rw_136_39 rfl (s_gR (pc := 40) rw_136_40 hG15 rfl (v := 17) rfl (to_in (pc := 43) rw_136_43 rfl (to_an (pc := 44) rw_136_44 rfl ?_))))))
            have j_18 := (PQ_f F14 q1)
            refine tt_gR (pc := 45) rw_136_45 (g_o hG15 rfl) j_18.1 (to_an (pc := 48) rw_136_48 rfl (s_gR (pc := 49) rw_136_49 hG15 rfl (v := 11) rfl (to_in (pc := 52) rw_136_52 rfl (s_v (pc := 53) rw_136_53 (dp0 hd (by decide)) (ls0 := [.ref 42, .ref 17, .int k, .ref p, .ref 11, .int f, .null, .null]) rfl (Nat.le_of_ble_eq_true rfl) (Nat.le_of_ble_eq_true rfl) rfl (to_rc rfl rfl rfl (g_o hG15 rfl)) rfl ?_))))
            have j_19 := (PI_f (tg_169 F14) q3)
            refine C_69 hX (dp1 hd (by decide)) hG15 hp (by omega) (by omega) (by omega) (by omega) j_19 (k := k) (p := p) (f := f) (fun M22 hG21 F20 => ?_)
            have F23 := FR.c F17 F20 tg_216
            refine to_an (pc := 56) rw_136_56 rfl (s_gR (pc := 57) rw_136_57 hG21 rfl (v := 42) rfl (s_v (pc := 60) rw_136_60 (dp0 hd (by decide)) (ls0 := [.ref 42, .null, .null, .null]) rfl (Nat.le_of_ble_eq_true rfl) (Nat.le_of_ble_eq_true rfl) rfl (to_rc rfl rfl rfl (g_o hG21 rfl)) rfl (C_70 hX (dp1 hd (by decide)) hG21  (fun r24 M27 hG26 F25 => ?_))))
            have F28 := FR.c F23 F25 tg_217
            refine to_r0 (pc := 63) rw_136_63 ?_
            have j_29 := (PI_f (tg_203 F25) (PI_f (tg_204 F20) j_19))
            have j_30 := (NI_f (tg_205 F25) (NI_f (tg_206 F20) (NI_f (tg_122 F14) q2)))
            have j_31 := (QI_f (tg_207 F25) (QI_f (tg_208 F20) (QI_f (tg_176 F14) q4)))
            exact h r24 M27 hG26 F28 j_29 j_30 j_31
          · refine to_c (pc := 10) rw_45_10 (x := (1 : Int32)) rfl rfl (to_go (pc := 11) rw_45_11 (s_r1 (pc := 15) rw_45_15 (A := 1) rfl (by decide) (b_ieq_f (pc := 26) rw_136_26 (A := 1) rfl (by decide) (to_c (pc := 29) rw_136_29 (x := (-1 : Int32)) rfl rfl (to_r0 (pc := 30) rw_136_30 ?_)))))
            have k_32 : (-1 : Int32).toInt = -1 := rfl
            exact h (-1 : Int32) M hG F0 q3 q2 q4
set_option maxRecDepth 4000 in
set_option maxHeartbeats 0 in
theorem C_137 {X : mm_X} {d : Nat} {M : mm_M} {Q : Option Value → mm_M → Prop} {k : Int32} {f : Int32} {w : Int32} {p : Nat} {pz : Nat} {q : Nat} {qz : Nat} (hX : g_X X) (hd : 6 ≤ d) (hG : g_G M) (hp : p = 49 ∨ p = 58) (hpz : pz = 49 ∨ pz = 58) (hq : q = 67 ∨ q = 72) (hqz : qz = 67 ∨ qz = 72) (q1 : g_PQ M p pz q qz) (q2 : NI M) (q3 : PI M) (q4 : QI M) (h : ∀ (r : Int32) (M1 : mm_M), g_G M1 → FR md_y M M1 → PI M1 → NI M1 → QI M1 → Q (some (.int r)) M1) : mm_T X d 137 0 [.ref 0, .int k, .int f, .int w] [] M Q := by
  have F0 : FR md_y M M := FR.rf
  refine to_in (pc := 0) rw_137_0 rfl (s_s (pc := 1) rw_137_1 (dp0 hd (by decide)) (ls0 := [.int k]) rfl (Nat.le_of_ble_eq_true rfl) (Nat.le_of_ble_eq_true rfl) rfl (to_rcs rfl rfl) rfl (to_in (pc := 0) rw_143_0 rfl (b_ilt (pc := 1) rw_143_1 (A := k.toInt) rfl (fun h1 => ?_) (fun h1 => ?_))))
  · refine to_c (pc := 14) rw_143_14 (x := (0 : Int32)) rfl rfl (s_r1 (pc := 15) rw_143_15 (A := 0) rfl (by decide) (b_ieq_t (pc := 4) rw_137_4 (A := 0) rfl (by decide) (to_c (pc := 33) rw_137_33 (x := (-1 : Int32)) rfl rfl (to_r0 (pc := 34) rw_137_34 ?_))))
    have k_2 : (-1 : Int32).toInt = -1 := rfl
    exact h (-1 : Int32) M hG F0 q3 q2 q4
  · refine to_in (pc := 4) rw_143_4 rfl (to_c (pc := 5) rw_143_5 (x := (6 : Int32)) rfl rfl (b_cge (pc := 7) rw_143_7 (A := k.toInt) (B := 6) rfl rfl (fun h3 => ?_) (fun h3 => ?_)))
    · refine to_c (pc := 14) rw_143_14 (x := (0 : Int32)) rfl rfl (s_r1 (pc := 15) rw_143_15 (A := 0) rfl (by decide) (b_ieq_t (pc := 4) rw_137_4 (A := 0) rfl (by decide) (to_c (pc := 33) rw_137_33 (x := (-1 : Int32)) rfl rfl (to_r0 (pc := 34) rw_137_34 ?_))))
      have k_4 : (-1 : Int32).toInt = -1 := rfl
      exact h (-1 : Int32) M hG F0 q3 q2 q4
    · refine to_c (pc := 10) rw_143_10 (x := (1 : Int32)) rfl rfl (to_go (pc := 11) rw_143_11 (s_r1 (pc := 15) rw_143_15 (A := 1) rfl (by decide) (b_ieq_f (pc := 4) rw_137_4 (A := 1) rfl (by decide) (to_an (pc := 7) rw_137_7 rfl (tt_gR (pc := 8) rw_137_8 (g_o hG rfl) q1.1 (to_in (pc := 11) rw_137_11 rfl (s_v (pc := 12) rw_137_12 (dp0 hd (by decide)) (ls0 := [.ref p, .int f]) rfl (Nat.le_of_ble_eq_true rfl) (Nat.le_of_ble_eq_true rfl) rfl (to_rc rfl rfl rfl (g_o hG (by rcases hp with rfl | rfl <;> rfl))) rfl (to_in (pc := 0) rw_43_0 rfl (b_ilt (pc := 1) rw_43_1 (A := f.toInt) rfl (fun h5 => ?_) (fun h5 => ?_))))))))))
      · refine to_c (pc := 16) rw_43_16 (x := (0 : Int32)) rfl rfl (s_r1 (pc := 17) rw_43_17 (A := 0) rfl (by decide) (b_ieq_t (pc := 15) rw_137_15 (A := 0) rfl (by decide) (to_c (pc := 33) rw_137_33 (x := (-1 : Int32)) rfl rfl (to_r0 (pc := 34) rw_137_34 ?_))))
        have k_6 : (-1 : Int32).toInt = -1 := rfl
        exact h (-1 : Int32) M hG F0 q3 q2 q4
      · refine to_in (pc := 4) rw_43_4 rfl (to_an (pc := 5) rw_43_5 rfl ?_)
        have b_7 := g_b hG (a := p) (i := 2) (lo := 0) (hi := 8) (by rcases hp with rfl | rfl <;> rfl) (by rcases hp with rfl | rfl <;> rfl)
        refine tt_gI (pc := 6) rw_43_6 (g_o hG (by rcases hp with rfl | rfl <;> rfl)) (v := (M.2.1 p 2)) rfl (b_cge (pc := 9) rw_43_9 (A := f.toInt) (B := (M.2.1 p 2).toInt) rfl rfl (fun h8 => ?_) (fun h8 => ?_))
        · refine to_c (pc := 16) rw_43_16 (x := (0 : Int32)) rfl rfl (s_r1 (pc := 17) rw_43_17 (A := 0) rfl (by decide) (b_ieq_t (pc := 15) rw_137_15 (A := 0) rfl (by decide) (to_c (pc := 33) rw_137_33 (x := (-1 : Int32)) rfl rfl (to_r0 (pc := 34) rw_137_34 ?_))))
          have k_9 : (-1 : Int32).toInt = -1 := rfl
          exact h (-1 : Int32) M hG F0 q3 q2 q4
        · refine to_c (pc := 12) rw_43_12 (x := (1 : Int32)) rfl rfl (to_go (pc := 13) rw_43_13 (s_r1 (pc := 17) rw_43_17 (A := 1) rfl (by decide) (b_ieq_f (pc := 15) rw_137_15 (A := 1) rfl (by decide) (to_an (pc := 18) rw_137_18 rfl (tt_gR (pc := 19) rw_137_19 (g_o hG rfl) q1.1 (to_in (pc := 22) rw_137_22 rfl (s_v (pc := 23) rw_137_23 (dp0 hd (by decide)) (ls0 := [.ref p, .int f]) rfl (Nat.le_of_ble_eq_true rfl) (Nat.le_of_ble_eq_true rfl) rfl (to_rc rfl rfl rfl (g_o hG (by rcases hp with rfl | rfl <;> rfl))) rfl (to_an (pc := 0) rw_45_0 rfl (s_gR (pc := 1) rw_45_1 hG (by rcases hp with rfl | rfl <;> rfl) (v := (p + 2)) (by rcases hp with rfl | rfl <;> rfl) (to_in (pc := 4) rw_45_4 rfl (s_ial (pc := 5) rw_45_5 hG (by rcases hp with rfl | rfl <;> rfl) (n := 8) (by rcases hp with rfl | rfl <;> rfl) (by rcases hp with rfl | rfl <;> rfl) (A := f.toInt) rfl (by omega) (by omega) (lo := 0) (hi := 3) (by rcases hp with rfl | rfl <;> rfl) (by rcases hp with rfl | rfl <;> rfl) (fun v10 w_11 _ _ => ?_))))))))))))
          refine to_c (pc := 6) rw_45_6 (x := (3 : Int32)) rfl rfl (b_cne (pc := 7) rw_45_7 (A := v10.toInt) (B := 3) rfl rfl (fun h12 => ?_) (fun h12 => ?_))
          · refine to_c (pc := 14) rw_45_14 (x := (0 : Int32)) rfl rfl (s_r1 (pc := 15) rw_45_15 (A := 0) rfl (by decide) (b_ine_f (pc := 26) rw_137_26 (A := 0) rfl (by decide) (to_in (pc := 29) rw_137_29 rfl (b_ige (pc := 30) rw_137_30 (A := w.toInt) rfl (fun h13 => ?_) (fun h13 => ?_)))))
            · refine to_an (pc := 35) rw_137_35 rfl (tt_gR (pc := 36) rw_137_36 (g_o hG rfl) q1.1 (to_in (pc := 39) rw_137_39 rfl (s_v (pc := 40) rw_137_40 (dp0 hd (by decide)) (ls0 := [.ref p, .int f]) rfl (Nat.le_of_ble_eq_true rfl) (Nat.le_of_ble_eq_true rfl) rfl (to_rc rfl rfl rfl (g_o hG (by rcases hp with rfl | rfl <;> rfl))) rfl (to_an (pc := 0) rw_47_0 rfl (s_gR (pc := 1) rw_47_1 hG (by rcases hp with rfl | rfl <;> rfl) (v := (p + 4)) (by rcases hp with rfl | rfl <;> rfl) (to_in (pc := 4) rw_47_4 rfl (s_ial (pc := 5) rw_47_5 hG (by rcases hp with rfl | rfl <;> rfl) (n := 8) (by rcases hp with rfl | rfl <;> rfl) (by rcases hp with rfl | rfl <;> rfl) (A := f.toInt) rfl (by omega) (by omega) (lo := 0) (hi := 63) (by rcases hp with rfl | rfl <;> rfl) (by rcases hp with rfl | rfl <;> rfl) (fun v14 w_15 _ _ => to_an (pc := 6) rw_47_6 rfl (s_gR (pc := 7) rw_47_7 hG (by rcases hp with rfl | rfl <;> rfl) (v := (p + 3)) (by rcases hp with rfl | rfl <;> rfl) (to_in (pc := 10) rw_47_10 rfl (s_ial (pc := 11) rw_47_11 hG (by rcases hp with rfl | rfl <;> rfl) (n := 8) (by rcases hp with rfl | rfl <;> rfl) (by rcases hp with rfl | rfl <;> rfl) (A := f.toInt) rfl (by omega) (by omega) (lo := 0) (hi := 59) (by rcases hp with rfl | rfl <;> rfl) (by rcases hp with rfl | rfl <;> rfl) (fun v16 w_17 _ _ => ?_))))))))))))
              refine s_sub (pc := 12) rw_47_12 (A := v14.toInt) (B := v16.toInt) rfl rfl (by omega) (fun v18 e19 => to_c (pc := 13) rw_47_13 (x := (1 : Int32)) rfl rfl (s_add (pc := 14) rw_47_14 (A := v18.toInt) (B := 1) rfl rfl (by omega) (fun v20 e21 => to_r0 (pc := 15) rw_47_15 (to_c (pc := 43) rw_137_43 (x := (6 : Int32)) rfl rfl (b_cle (pc := 45) rw_137_45 (A := v20.toInt) (B := 6) rfl rfl (fun h22 => ?_) (fun h22 => ?_))))))
              · refine to_an (pc := 50) rw_137_50 rfl (s_v (pc := 51) rw_137_51 (dp0 hd (by decide)) (ls0 := [.ref 0]) rfl (Nat.le_of_ble_eq_true rfl) (Nat.le_of_ble_eq_true rfl) rfl (to_rc rfl rfl rfl (g_o hG rfl)) rfl (to_an (pc := 0) rw_142_0 rfl (s_gR (pc := 1) rw_142_1 hG rfl (v := 11) rfl (to_an (pc := 4) rw_142_4 rfl (tt_gR (pc := 5) rw_142_5 (g_o hG rfl) q1.1 (to_an (pc := 8) rw_142_8 rfl (s_gR (pc := 9) rw_142_9 hG rfl (v := 6) rfl (to_an (pc := 12) rw_142_12 rfl (s_gR (pc := 13) rw_142_13 hG rfl (v := 6) rfl ?_)))))))))
                have b_23 := g_b hG (a := 6) (i := 0) (lo := 0) (hi := 150) rfl rfl
                refine tt_gI (pc := 16) rw_142_16 (g_o hG rfl) (v := (M.2.1 6 0)) rfl (s_v (pc := 19) rw_142_19 (dp1 hd (by decide)) (ls0 := [.ref 11, .ref p, .ref 6, .int (M.2.1 6 0), .null]) rfl (Nat.le_of_ble_eq_true rfl) (Nat.le_of_ble_eq_true rfl) rfl (to_rc rfl rfl rfl (g_o hG rfl)) rfl (C_8 hX (dp2 hd (by decide)) hG hp (by omega) (by omega) q2 (p := p) (n := (M.2.1 6 0)) (fun M26 hG25 F24 => ?_)))
                have F27 := FR.c F0 F24 tg_190
                refine to_rv (pc := 22) rw_142_22 (to_an (pc := 54) rw_137_54 rfl (s_gR (pc := 55) rw_137_55 hG25 rfl (v := 17) rfl (to_an (pc := 58) rw_137_58 rfl (s_gR (pc := 59) rw_137_59 hG25 rfl (v := 11) rfl (to_an (pc := 62) rw_137_62 rfl ?_)))))
                have j_28 := (PQ_f F24 q1)
                refine tt_gR (pc := 63) rw_137_63 (g_o hG25 rfl) j_28.1 ?_
                have c_29 : M26.2.1 p 0 = (M.2.1 p 0) := (F_n F24 (show ¬ (11 ≤ p ∧ p ≤ 16) by omega) rfl)
                have b_30 := g_b hG (a := p) (i := 0) (lo := 10) (hi := 60) (by rcases hp with rfl | rfl <;> rfl) (by rcases hp with rfl | rfl <;> rfl)
                refine tt_gI (pc := 66) rw_137_66 (g_o hG25 (by rcases hp with rfl | rfl <;> rfl)) (v := (M.2.1 p 0)) c_29 (s_v (pc := 69) rw_137_69 (dp0 hd (by decide)) (ls0 := [.ref 17, .ref 11, .int (M.2.1 p 0), .null, .null]) rfl (Nat.le_of_ble_eq_true rfl) (Nat.le_of_ble_eq_true rfl) rfl (to_rc rfl rfl rfl (g_o hG25 rfl)) rfl (C_24 hX (dp1 hd (by decide)) hG25 (by omega) (y := (M.2.1 p 0)) (fun M33 hG32 F31 => ?_)))
                have F34 := FR.c F27 F31 tg_209
                refine to_an (pc := 72) rw_137_72 rfl (s_gR (pc := 73) rw_137_73 hG32 rfl (v := 42) rfl (to_an (pc := 76) rw_137_76 rfl (s_gR (pc := 77) rw_137_77 hG32 rfl (v := 17) rfl (to_in (pc := 80) rw_137_80 rfl (to_an (pc := 81) rw_137_81 rfl ?_)))))
                have j_35 := (PQ_f F31 j_28)
                refine tt_gR (pc := 82) rw_137_82 (g_o hG32 rfl) j_35.1 (to_an (pc := 85) rw_137_85 rfl (s_gR (pc := 86) rw_137_86 hG32 rfl (v := 11) rfl (to_in (pc := 89) rw_137_89 rfl (s_v (pc := 90) rw_137_90 (dp0 hd (by decide)) (ls0 := [.ref 42, .ref 17, .int k, .ref p, .ref 11, .int f, .null, .null]) rfl (Nat.le_of_ble_eq_true rfl) (Nat.le_of_ble_eq_true rfl) rfl (to_rc rfl rfl rfl (g_o hG32 rfl)) rfl ?_))))
                have j_36 := (PI_f (tg_167 F31) (PI_f (tg_169 F24) q3))
                refine C_69 hX (dp1 hd (by decide)) hG32 hp (by omega) (by omega) (by omega) (by omega) j_36 (k := k) (p := p) (f := f) (fun M39 hG38 F37 => ?_)
                have F40 := FR.c F34 F37 tg_216
                refine to_an (pc := 93) rw_137_93 rfl (s_gR (pc := 94) rw_137_94 hG38 rfl (v := 42) rfl (s_v (pc := 97) rw_137_97 (dp0 hd (by decide)) (ls0 := [.ref 42, .null, .null, .null]) rfl (Nat.le_of_ble_eq_true rfl) (Nat.le_of_ble_eq_true rfl) rfl (to_rc rfl rfl rfl (g_o hG38 rfl)) rfl (C_71 hX (dp1 hd (by decide)) hG38  (fun r41 M46 hG43 F42 p_44 p_45 => ?_))))
                have F47 := FR.c F40 F42 tg_216
                refine b_ine (pc := 100) rw_137_100 (A := r41.toInt) rfl (fun h48 => ?_) (fun h48 => ?_)
                · refine to_in (pc := 106) rw_137_106 rfl (b_ine (pc := 107) rw_137_107 (A := w.toInt) rfl (fun h49 => ?_) (fun h49 => ?_))
                  · refine to_in (pc := 118) rw_137_118 rfl (to_an (pc := 119) rw_137_119 rfl (s_gR (pc := 120) rw_137_120 hG43 rfl (v := 42) rfl (tt_gI (pc := 123) rw_137_123 (g_o hG43 rfl) (v := (M46.2.1 42 8)) rfl (b_cle (pc := 126) rw_137_126 (A := w.toInt) (B := (M46.2.1 42 8).toInt) rfl rfl (fun h50 => ?_) (fun h50 => ?_)))))
                    · refine to_an (pc := 133) rw_137_133 rfl ?_
                      have j_51 := (PQ_f F42 (PQ_f F37 j_35))
                      refine tt_gR (pc := 134) rw_137_134 (g_o hG43 rfl) j_51.1 (s_gR (pc := 137) rw_137_137 hG43 (by rcases hp with rfl | rfl <;> rfl) (v := (p + 3)) (by rcases hp with rfl | rfl <;> rfl) (to_in (pc := 140) rw_137_140 rfl (s_ialk (pc := 141) rw_137_141 hG43 (by rcases hp with rfl | rfl <;> rfl) (n := 8) (by rcases hp with rfl | rfl <;> rfl) (by rcases hp with rfl | rfl <;> rfl) (A := f.toInt) rfl (by omega) (by omega) (v := v16) (F_n F42 (show ¬ (42 ≤ (p + 3) ∧ (p + 3) ≤ 48) by omega) (F_n F37 (show ¬ (42 ≤ (p + 3) ∧ (p + 3) ≤ 48) by omega) (F_n F31 (show ¬ (18 ≤ (p + 3) ∧ (p + 3) ≤ 27) by omega) (F_n F24 (show ¬ (11 ≤ (p + 3) ∧ (p + 3) ≤ 16) by omega) w_17)))) (to_an (pc := 142) rw_137_142 rfl (s_gR (pc := 143) rw_137_143 hG43 rfl (v := 42) rfl (to_in (pc := 146) rw_137_146 rfl (to_c (pc := 147) rw_137_147 (x := (1 : Int32)) rfl rfl ?_)))))))
                      have i_56 := i_of (x := w)
                      refine s_sub (pc := 148) rw_137_148 (A := w.toInt) (B := 1) rfl rfl (by omega) (fun v54 e55 => s_v (pc := 149) rw_137_149 (dp0 hd (by decide)) (ls0 := [.ref 42, .int v54]) rfl (Nat.le_of_ble_eq_true rfl) (Nat.le_of_ble_eq_true rfl) rfl (to_rc rfl rfl rfl (g_o hG43 rfl)) rfl (to_an (pc := 0) rw_75_0 rfl (tt_gI (pc := 1) rw_75_1 (g_o hG43 rfl) (v := (M46.2.1 42 9)) rfl (to_c (pc := 4) rw_75_4 (x := (3 : Int32)) rfl rfl (to_an (pc := 5) rw_75_5 rfl (tt_gI (pc := 6) rw_75_6 (g_o hG43 rfl) (v := (M46.2.1 42 8)) rfl (to_c (pc := 9) rw_75_9 (x := (1 : Int32)) rfl rfl ?_)))))))
                      have i_59 := i_of (x := (M46.2.1 42 8))
                      refine s_sub (pc := 10) rw_75_10 (A := (M46.2.1 42 8).toInt) (B := 1) rfl rfl (by omega) (fun v57 e58 => to_in (pc := 11) rw_75_11 rfl (s_sub (pc := 12) rw_75_12 (A := v57.toInt) (B := v54.toInt) rfl rfl (by omega) (fun v60 e61 => s_any (pc := 13) rw_75_13 (fun _ _ => rfl) (fun v62 => s_any (pc := 14) rw_75_14 (fun _ _ => rfl) (fun v63 => to_c (pc := 15) rw_75_15 (x := (7 : Int32)) rfl rfl (s_and (pc := 17) rw_75_17 (B := 7) rfl (by omega) (fun v64 e65 _ _ => to_r0 (pc := 18) rw_75_18 (s_add (pc := 152) rw_137_152 (A := v16.toInt) (B := v64.toInt) rfl rfl (by omega) (fun v66 e67 => to_r0 (pc := 153) rw_137_153 ?_)))))))))
                      have j_68 := (PI_f (tg_204 F42) (PI_f (tg_204 F37) j_36))
                      have j_69 := (NI_f (tg_206 F42) (NI_f (tg_206 F37) (NI_f (tg_171 F31) (NI_f (tg_122 F24) q2))))
                      have j_70 := (QI_f (tg_208 F42) (QI_f (tg_208 F37) (QI_f (tg_174 F31) (QI_f (tg_176 F24) q4))))
                      exact h v66 M46 hG43 F47 j_68 j_69 j_70
                    · refine to_c (pc := 129) rw_137_129 (x := (-1 : Int32)) rfl rfl (to_go (pc := 130) rw_137_130 (to_r0 (pc := 153) rw_137_153 ?_))
                      have k_71 : (-1 : Int32).toInt = -1 := rfl
                      have j_72 := (PI_f (tg_204 F42) (PI_f (tg_204 F37) j_36))
                      have j_73 := (NI_f (tg_206 F42) (NI_f (tg_206 F37) (NI_f (tg_171 F31) (NI_f (tg_122 F24) q2))))
                      have j_74 := (QI_f (tg_208 F42) (QI_f (tg_208 F37) (QI_f (tg_174 F31) (QI_f (tg_176 F24) q4))))
                      exact h (-1 : Int32) M46 hG43 F47 j_72 j_73 j_74
                  · refine to_an (pc := 110) rw_137_110 rfl (s_gR (pc := 111) rw_137_111 hG43 rfl (v := 42) rfl (tt_gI (pc := 114) rw_137_114 (g_o hG43 rfl) (v := (M46.2.1 42 8)) rfl (to_r0 (pc := 117) rw_137_117 ?_)))
                    have j_75 := (PI_f (tg_204 F42) (PI_f (tg_204 F37) j_36))
                    have j_76 := (NI_f (tg_206 F42) (NI_f (tg_206 F37) (NI_f (tg_171 F31) (NI_f (tg_122 F24) q2))))
                    have j_77 := (QI_f (tg_208 F42) (QI_f (tg_208 F37) (QI_f (tg_174 F31) (QI_f (tg_176 F24) q4))))
                    exact h (M46.2.1 42 8) M46 hG43 F47 j_75 j_76 j_77
                · refine to_c (pc := 103) rw_137_103 (x := (-2 : Int32)) rfl rfl (to_r0 (pc := 105) rw_137_105 ?_)
                  have k_78 : (-2 : Int32).toInt = -2 := rfl
                  have j_79 := (PI_f (tg_204 F42) (PI_f (tg_204 F37) j_36))
                  have j_80 := (NI_f (tg_206 F42) (NI_f (tg_206 F37) (NI_f (tg_171 F31) (NI_f (tg_122 F24) q2))))
                  have j_81 := (QI_f (tg_208 F42) (QI_f (tg_208 F37) (QI_f (tg_174 F31) (QI_f (tg_176 F24) q4))))
                  exact h (-2 : Int32) M46 hG43 F47 j_79 j_80 j_81
              · refine to_c (pc := 48) rw_137_48 (x := (-1 : Int32)) rfl rfl (to_r0 (pc := 49) rw_137_49 ?_)
                have k_82 : (-1 : Int32).toInt = -1 := rfl
                exact h (-1 : Int32) M hG F0 q3 q2 q4
            · refine to_c (pc := 33) rw_137_33 (x := (-1 : Int32)) rfl rfl (to_r0 (pc := 34) rw_137_34 ?_)
              have k_83 : (-1 : Int32).toInt = -1 := rfl
              exact h (-1 : Int32) M hG F0 q3 q2 q4
          · refine to_c (pc := 10) rw_45_10 (x := (1 : Int32)) rfl rfl (to_go (pc := 11) rw_45_11 (s_r1 (pc := 15) rw_45_15 (A := 1) rfl (by decide) (b_ine_t (pc := 26) rw_137_26 (A := 1) rfl (by decide) (to_c (pc := 33) rw_137_33 (x := (-1 : Int32)) rfl rfl (to_r0 (pc := 34) rw_137_34 ?_)))))
            have k_84 : (-1 : Int32).toInt = -1 := rfl
            exact h (-1 : Int32) M hG F0 q3 q2 q4
set_option maxRecDepth 4000 in
set_option maxHeartbeats 0 in
theorem C_138 {X : mm_X} {d : Nat} {M : mm_M} {Q : Option Value → mm_M → Prop} {w : Int32} {p : Nat} {pz : Nat} {q : Nat} {qz : Nat} (hX : g_X X) (hd : 0 ≤ d) (hG : g_G M) (hp : p = 49 ∨ p = 58) (hpz : pz = 49 ∨ pz = 58) (hq : q = 67 ∨ q = 72) (hqz : qz = 67 ∨ qz = 72) (q1 : g_PQ M p pz q qz) (h : ∀ (r : Int32) (M1 : mm_M), g_G M1 → FR md_0 M M1 → Q (some (.int r)) M1) : mm_T X d 138 0 [.ref 0, .int w] [] M Q := by
  have F0 : FR md_0 M M := FR.rf
  refine to_in (pc := 0) rw_138_0 rfl ?_
  rcases (show w.toInt = 0 ∨ w.toInt = 1 ∨ w.toInt = 2 ∨ w.toInt = 3 ∨ w.toInt = 4 ∨ w.toInt = 5 ∨ w.toInt = 6 ∨ w.toInt = 7 ∨ (w.toInt < 0 ∨ 7 < w.toInt) by omega) with h1 | h1 | h1 | h1 | h1 | h1 | h1 | h1 | h1
  · refine s_sw (pc := 1) rw_138_1 (A := w.toInt) (k := 0) (t := 48) rfl h1 (by decide) rfl (to_an (pc := 48) rw_138_48 rfl (tt_gR (pc := 49) rw_138_49 (g_o hG rfl) q1.1 ?_))
    have b_2 := g_b hG (a := p) (i := 0) (lo := 10) (hi := 60) (by rcases hp with rfl | rfl <;> rfl) (by rcases hp with rfl | rfl <;> rfl)
    refine tt_gI (pc := 52) rw_138_52 (g_o hG (by rcases hp with rfl | rfl <;> rfl)) (v := (M.2.1 p 0)) rfl (to_r0 (pc := 55) rw_138_55 ?_)
    exact h (M.2.1 p 0) M hG F0 
  · refine s_sw (pc := 1) rw_138_1 (A := w.toInt) (k := 1) (t := 56) rfl h1 (by decide) rfl (to_an (pc := 56) rw_138_56 rfl (tt_gR (pc := 57) rw_138_57 (g_o hG rfl) q1.1 ?_))
    have b_3 := g_b hG (a := p) (i := 2) (lo := 0) (hi := 8) (by rcases hp with rfl | rfl <;> rfl) (by rcases hp with rfl | rfl <;> rfl)
    refine tt_gI (pc := 60) rw_138_60 (g_o hG (by rcases hp with rfl | rfl <;> rfl)) (v := (M.2.1 p 2)) rfl (to_r0 (pc := 63) rw_138_63 ?_)
    exact h (M.2.1 p 2) M hG F0 
  · refine s_sw (pc := 1) rw_138_1 (A := w.toInt) (k := 2) (t := 64) rfl h1 (by decide) rfl (to_an (pc := 64) rw_138_64 rfl (tt_gR (pc := 65) rw_138_65 (g_o hG rfl) q1.1 ?_))
    have b_4 := g_b hG (a := p) (i := 3) (lo := 0) (hi := 12) (by rcases hp with rfl | rfl <;> rfl) (by rcases hp with rfl | rfl <;> rfl)
    refine tt_gI (pc := 68) rw_138_68 (g_o hG (by rcases hp with rfl | rfl <;> rfl)) (v := (M.2.1 p 3)) rfl (to_r0 (pc := 71) rw_138_71 ?_)
    exact h (M.2.1 p 3) M hG F0 
  · refine s_sw (pc := 1) rw_138_1 (A := w.toInt) (k := 3) (t := 72) rfl h1 (by decide) rfl (to_an (pc := 72) rw_138_72 rfl ?_)
    have b_5 := g_b hG (a := 0) (i := 12) (lo := 0) (hi := 30) rfl rfl
    refine tt_gI (pc := 73) rw_138_73 (g_o hG rfl) (v := (M.2.1 0 12)) rfl (to_r0 (pc := 76) rw_138_76 ?_)
    exact h (M.2.1 0 12) M hG F0 
  · refine s_sw (pc := 1) rw_138_1 (A := w.toInt) (k := 4) (t := 77) rfl h1 (by decide) rfl (to_an (pc := 77) rw_138_77 rfl (s_gR (pc := 78) rw_138_78 hG rfl (v := 6) rfl ?_))
    have b_6 := g_b hG (a := 6) (i := 0) (lo := 0) (hi := 150) rfl rfl
    refine tt_gI (pc := 81) rw_138_81 (g_o hG rfl) (v := (M.2.1 6 0)) rfl (to_r0 (pc := 84) rw_138_84 ?_)
    exact h (M.2.1 6 0) M hG F0 
  · refine s_sw (pc := 1) rw_138_1 (A := w.toInt) (k := 5) (t := 85) rfl h1 (by decide) rfl (to_an (pc := 85) rw_138_85 rfl (tt_gR (pc := 86) rw_138_86 (g_o hG rfl) q1.2.2.1 ?_))
    have b_7 := g_b hG (a := q) (i := 4) (lo := 0) (hi := 40) (by rcases hq with rfl | rfl <;> rfl) (by rcases hq with rfl | rfl <;> rfl)
    refine tt_gI (pc := 89) rw_138_89 (g_o hG (by rcases hq with rfl | rfl <;> rfl)) (v := (M.2.1 q 4)) rfl (to_r0 (pc := 92) rw_138_92 ?_)
    exact h (M.2.1 q 4) M hG F0 
  · refine s_sw (pc := 1) rw_138_1 (A := w.toInt) (k := 6) (t := 93) rfl h1 (by decide) rfl (to_an (pc := 93) rw_138_93 rfl (s_gR (pc := 94) rw_138_94 hG rfl (v := 28) rfl (tt_gI (pc := 97) rw_138_97 (g_o hG rfl) (v := (M.2.1 28 9)) rfl (to_r0 (pc := 100) rw_138_100 ?_))))
    exact h (M.2.1 28 9) M hG F0 
  · refine s_sw (pc := 1) rw_138_1 (A := w.toInt) (k := 7) (t := 101) rfl h1 (by decide) rfl (to_an (pc := 101) rw_138_101 rfl (s_gR (pc := 102) rw_138_102 hG rfl (v := 28) rfl ?_))
    have b_8 := g_b hG (a := 28) (i := 8) (lo := 0) (hi := 3000) rfl rfl
    refine tt_gI (pc := 105) rw_138_105 (g_o hG rfl) (v := (M.2.1 28 8)) rfl (to_r0 (pc := 108) rw_138_108 ?_)
    exact h (M.2.1 28 8) M hG F0 
  · refine s_swd (pc := 1) rw_138_1 (A := w.toInt) rfl h1 (to_c (pc := 109) rw_138_109 (x := (-1 : Int32)) rfl rfl (to_r0 (pc := 110) rw_138_110 ?_))
    have k_9 : (-1 : Int32).toInt = -1 := rfl
    exact h (-1 : Int32) M hG F0 
