theorem tg_307 {M M1 : mm_M} (F : FR (fun a i : Nat => a < 0) M M1) : ∀ a i : Nat, (81 ≤ a ∧ a ≤ 84) → M1.2.1 a i = M.2.1 a i := fun a i z => F_n F (show ¬ (a < 0) by omega) rfl
theorem tg_308 {M M1 : mm_M} (F : FR (fun a i : Nat => a < 0) M M1) : ∀ a i : Nat, WR_r a i → M1.2.1 a i = M.2.1 a i := fun a i z => F_n F (show ¬ (a < 0) by omega) rfl
theorem tg_309 {M M1 : mm_M} (F : FR (fun a i : Nat => a = 77 ∧ 7 ≤ i ∧ i ≤ 10) M M1) : ∀ a i : Nat, (81 ≤ a ∧ a ≤ 84) → M1.2.1 a i = M.2.1 a i := fun a i z => F_n F (show ¬ (a = 77 ∧ 7 ≤ i ∧ i ≤ 10) by omega) rfl
theorem tg_310 {M M1 : mm_M} (F : FR (fun a i : Nat => a = 77 ∧ (i = 4 ∨ i = 5)) M M1) : ∀ a i : Nat, (81 ≤ a ∧ a ≤ 84) → M1.2.1 a i = M.2.1 a i := fun a i z => F_n F (show ¬ (a = 77 ∧ (i = 4 ∨ i = 5)) by omega) rfl
theorem tg_311 {M M1 : mm_M} (F : FR (fun a i : Nat => a = 77 ∧ 7 ≤ i ∧ i ≤ 10) M M1) : ∀ a i : Nat, WR_r a i → M1.2.1 a i = M.2.1 a i := fun a i z => F_n F (show ¬ (a = 77 ∧ 7 ≤ i ∧ i ≤ 10) by omega) rfl
theorem tg_312 {M M1 : mm_M} (F : FR (fun a i : Nat => a = 77 ∧ (i = 4 ∨ i = 5)) M M1) : ∀ a i : Nat, WR_r a i → M1.2.1 a i = M.2.1 a i := fun a i z => F_n F (show ¬ (a = 77 ∧ (i = 4 ∨ i = 5)) by omega) rfl
theorem tg_313 {M M1 : mm_M} (F : FR (fun a i : Nat => a = 77 ∧ (i = 4 ∨ i = 5 ∨ 7 ≤ i ∧ i ≤ 10)) M M1) : ∀ a i : Nat, (81 ≤ a ∧ a ≤ 84) → M1.2.1 a i = M.2.1 a i := fun a i z => F_n F (show ¬ (a = 77 ∧ (i = 4 ∨ i = 5 ∨ 7 ≤ i ∧ i ≤ 10)) by omega) rfl
theorem tg_314 {M M1 : mm_M} (F : FR (fun a i : Nat => a = 77 ∧ (i = 4 ∨ i = 5 ∨ 7 ≤ i ∧ i ≤ 10 ∨ i = 16) ∨ 85 ≤ a ∧ a ≤ 87 ∧ 12 ≤ i) M M1) : ∀ a i : Nat, (81 ≤ a ∧ a ≤ 84) → M1.2.1 a i = M.2.1 a i := fun a i z => F_n F (show ¬ (a = 77 ∧ (i = 4 ∨ i = 5 ∨ 7 ≤ i ∧ i ≤ 10 ∨ i = 16) ∨ 85 ≤ a ∧ a ≤ 87 ∧ 12 ≤ i) by omega) rfl
theorem tg_315 {M M1 : mm_M} (F : FR (fun a i : Nat => a = 77 ∧ (i = 4 ∨ i = 5 ∨ 7 ≤ i ∧ i ≤ 10)) M M1) : ∀ a i : Nat, WR_r a i → M1.2.1 a i = M.2.1 a i := fun a i z => F_n F (show ¬ (a = 77 ∧ (i = 4 ∨ i = 5 ∨ 7 ≤ i ∧ i ≤ 10)) by omega) rfl
theorem tg_316 : ∀ a i : Nat, (a < 0) → (a = 77 ∧ (i = 4 ∨ i = 5 ∨ 7 ≤ i ∧ i ≤ 10 ∨ 14 ≤ i ∧ i ≤ 16 ∨ i = 25) ∨ 80 ≤ a ∧ a ≤ 84 ∧ 8 ≤ i ∨ 85 ≤ a ∧ a ≤ 87 ∧ 12 ≤ i) := fun a i z => by omega
theorem tg_317 : ∀ a i : Nat, (a = 77 ∧ (i = 4 ∨ i = 5 ∨ 7 ≤ i ∧ i ≤ 10 ∨ 14 ≤ i ∧ i ≤ 16 ∨ i = 25) ∨ 80 ≤ a ∧ a ≤ 84 ∧ 8 ≤ i ∨ 85 ≤ a ∧ a ≤ 87 ∧ 12 ≤ i) → (a = 77 ∧ (i = 4 ∨ i = 5 ∨ 7 ≤ i ∧ i ≤ 10 ∨ 14 ≤ i ∧ i ≤ 16 ∨ i = 25) ∨ 80 ≤ a ∧ a ≤ 84 ∧ 8 ≤ i ∨ 85 ≤ a ∧ a ≤ 87 ∧ 12 ≤ i) := fun a i z => by omega
theorem tg_318 : ∀ a i j : Nat, (81 ≤ a ∧ a ≤ 84) → ¬ (a = 80 ∧ i = j) := fun a i j z => by omega
theorem tg_319 : ∀ a i : Nat, (81 ≤ a ∧ a ≤ 84) → ¬ (a = 77 ∧ i = 15) := fun a i z => by omega
theorem tg_320 : ∀ a i : Nat, (81 ≤ a ∧ a ≤ 84) → ¬ (a = 77 ∧ i = 5) := fun a i z => by omega
theorem tg_321 : ∀ a i : Nat, (81 ≤ a ∧ a ≤ 84) → ¬ (a = 77 ∧ i = 4) := fun a i z => by omega
theorem tg_322 : ∀ a i : Nat, (81 ≤ a ∧ a ≤ 84) → ¬ (a = 77 ∧ i = 14) := fun a i z => by omega
set_option maxRecDepth 4000 in
set_option maxHeartbeats 0 in
theorem T_166_0 {X : mm_X} {d : Nat} {M : mm_M} {Q : Option Value → mm_M → Prop} {n : Int32} (hX : g_X X) (hd : 0 ≤ d) (h : ∀ (r : Int32) (M1 : mm_M), g_G M1 → FR md_0 M M1 → (-1 ≤ r.toInt) → (r.toInt ≤ 7) → (r.toInt < (M.2.1 77 15).toInt) → Q (some (.int r)) M1) : ∀ nn9 : Nat, (∀ (N : mm_M) (x2 : Int32), g_G N → FR md_0 M N → (0 ≤ x2.toInt) → (x2.toInt ≤ 8) → ((N.2.1 77 15).toInt = (M.2.1 77 15).toInt) → 8 - x2.toInt < (nn9 : Int) → mm_T X d 165 2 [.ref 77, .int n, .int x2] [] N Q) := by
  intro nn9
  induction nn9 with
  | zero =>
    intro N x2 hG F0 g1 g2 g3 hm
    have b_1 := g_b hG (a := 77) (i := 15) (lo := 0) (hi := 8) rfl rfl
    exfalso; omega
  | succ nn9 ih =>
    intro N x2 hG F0 g1 g2 g3 hm
    have b_2 := g_b hG (a := 77) (i := 15) (lo := 0) (hi := 8) rfl rfl
    refine to_in (pc := 2) rw_166_2 rfl (to_an (pc := 3) rw_166_3 rfl (tt_gI (pc := 4) rw_166_4 (g_o hG rfl) (v := (N.2.1 77 15)) rfl (b_cge (pc := 7) rw_166_7 (A := x2.toInt) (B := (N.2.1 77 15).toInt) rfl rfl (fun h3 => ?_) (fun h3 => ?_))))
    · refine to_c (pc := 31) rw_166_31 (x := (-1 : Int32)) rfl rfl (to_r0 (pc := 32) rw_166_32 ?_)
      have k_4 : (-1 : Int32).toInt = -1 := rfl
      exact h (-1 : Int32) N hG F0 (by omega) (by omega) (by omega)
    · refine to_an (pc := 10) rw_166_10 rfl (s_gR (pc := 11) rw_166_11 hG rfl (v := 80) rfl (to_c (pc := 14) rw_166_14 (x := (8 : Int32)) rfl rfl (to_in (pc := 16) rw_166_16 rfl (s_add (pc := 17) rw_166_17 (A := 8) (B := x2.toInt) rfl rfl (by omega) (fun v5 e6 => s_ial (pc := 18) rw_166_18 hG rfl (n := 16) rfl rfl (A := v5.toInt) rfl (by omega) (by omega) (lo := -2147483648) (hi := 2147483647) rfl rfl (fun v7 w_8 _ _ => to_in (pc := 19) rw_166_19 rfl (b_cne (pc := 20) rw_166_20 (A := v7.toInt) (B := n.toInt) rfl rfl (fun h9 => ?_) (fun h9 => ?_))))))))
      · refine s_inc (pc := 25) rw_166_25 (ls2 := fun v => [.ref 77, .int n, .int v]) rfl rfl (fun _ => rfl) (A := x2.toInt) (B := 1) rfl rfl (by omega) (fun v10 e11 => to_go (pc := 28) rw_166_28 ?_)
        exact ih N v10 hG F0 (by omega) (by omega) (by omega) (by omega)
      · refine to_in (pc := 23) rw_166_23 rfl (to_r0 (pc := 24) rw_166_24 ?_)
        exact h x2 N hG F0 (by omega) (by omega) (by omega)
set_option maxRecDepth 4000 in
set_option maxHeartbeats 0 in
theorem C_166 {X : mm_X} {d : Nat} {M : mm_M} {Q : Option Value → mm_M → Prop} {n : Int32} (hX : g_X X) (hd : 0 ≤ d) (hG : g_G M) (h : ∀ (r : Int32) (M1 : mm_M), g_G M1 → FR md_0 M M1 → (-1 ≤ r.toInt) → (r.toInt ≤ 7) → (r.toInt < (M.2.1 77 15).toInt) → Q (some (.int r)) M1) : mm_T X d 165 0 [.ref 77, .int n, .null] [] M Q := by
  have F0 : FR md_0 M M := FR.rf
  refine to_c (pc := 0) rw_166_0 (x := (0 : Int32)) rfl rfl (to_isn (pc := 1) rw_166_1 (ls2 := [.ref 77, .int n, .int (0 : Int32)]) rfl rfl ?_)
  have k_12 : (0 : Int32).toInt = 0 := rfl
  have b_13 := g_b hG (a := 77) (i := 15) (lo := 0) (hi := 8) rfl rfl
  exact (T_166_0 (n := n) hX hd  h ((8 - (0 : Int32).toInt).toNat + 1)) M (0 : Int32) hG F0 (by omega) (by omega) (by omega) (by omega)
set_option maxRecDepth 4000 in
set_option maxHeartbeats 0 in
theorem T_167_0 {X : mm_X} {d : Nat} {M : mm_M} {Q : Option Value → mm_M → Prop} {n : Int32} (hX : g_X X) (hd : 1 ≤ d) (h : ∀ (r : Int32) (M1 : mm_M), g_G M1 → FR md_0 M M1 → (0 ≤ r.toInt) → (r.toInt ≤ 1) → Q (some (.int r)) M1) : ∀ nn9 : Nat, (∀ (N : mm_M) (x2 : Int32), g_G N → FR md_0 M N → (0 ≤ x2.toInt) → (x2.toInt ≤ 12) → 12 - x2.toInt < (nn9 : Int) → mm_T X d 166 2 [.ref 77, .int n, .int x2] [] N Q) := by
  intro nn9
  induction nn9 with
  | zero =>
    intro N x2 hG F0 g1 g2 hm
    exfalso; omega
  | succ nn9 ih =>
    intro N x2 hG F0 g1 g2 hm
    refine to_in (pc := 2) rw_167_2 rfl (to_an (pc := 3) rw_167_3 rfl ?_)
    have b_1 := g_b hG (a := 77) (i := 16) (lo := 0) (hi := 12) rfl rfl
    refine tt_gI (pc := 4) rw_167_4 (g_o hG rfl) (v := (N.2.1 77 16)) rfl (b_cge (pc := 7) rw_167_7 (A := x2.toInt) (B := (N.2.1 77 16).toInt) rfl rfl (fun h2 => ?_) (fun h2 => ?_))
    · refine to_an (pc := 31) rw_167_31 rfl (to_in (pc := 32) rw_167_32 rfl (s_v (pc := 33) rw_167_33 (dp0 hd (by decide)) (ls0 := [.ref 77, .int n, .null]) rfl (Nat.le_of_ble_eq_true rfl) (Nat.le_of_ble_eq_true rfl) rfl (to_rc rfl rfl rfl (g_o hG rfl)) rfl ?_))
      have b_3 := g_b hG (a := 77) (i := 15) (lo := 0) (hi := 8) rfl rfl
      refine C_166 hX (dp1 hd (by decide)) hG (n := n) (fun r4 M10 hG6 F5 p_7 p_8 p_9 => ?_)
      have F11 := FR.c F0 F5 tg_29
      refine b_ilt (pc := 36) rw_167_36 (A := r4.toInt) rfl (fun h12 => ?_) (fun h12 => ?_)
      · refine to_c (pc := 43) rw_167_43 (x := (0 : Int32)) rfl rfl (s_r1 (pc := 44) rw_167_44 (A := 0) rfl (by decide) ?_)
        have k_13 : (0 : Int32).toInt = 0 := rfl
        exact h (0 : Int32) M10 hG6 F11 (by decide) (by decide)
      · refine to_c (pc := 39) rw_167_39 (x := (1 : Int32)) rfl rfl (to_go (pc := 40) rw_167_40 (s_r1 (pc := 44) rw_167_44 (A := 1) rfl (by decide) ?_))
        have k_14 : (1 : Int32).toInt = 1 := rfl
        exact h (1 : Int32) M10 hG6 F11 (by decide) (by decide)
    · refine to_an (pc := 10) rw_167_10 rfl (s_gR (pc := 11) rw_167_11 hG rfl (v := 85) rfl (to_c (pc := 14) rw_167_14 (x := (12 : Int32)) rfl rfl (to_in (pc := 16) rw_167_16 rfl (s_add (pc := 17) rw_167_17 (A := 12) (B := x2.toInt) rfl rfl (by omega) (fun v15 e16 => s_ial (pc := 18) rw_167_18 hG rfl (n := 24) rfl rfl (A := v15.toInt) rfl (by omega) (by omega) (lo := -2147483648) (hi := 2147483647) rfl rfl (fun v17 w_18 _ _ => to_in (pc := 19) rw_167_19 rfl (b_cne (pc := 20) rw_167_20 (A := v17.toInt) (B := n.toInt) rfl rfl (fun h19 => ?_) (fun h19 => ?_))))))))
      · refine s_inc (pc := 25) rw_167_25 (ls2 := fun v => [.ref 77, .int n, .int v]) rfl rfl (fun _ => rfl) (A := x2.toInt) (B := 1) rfl rfl (by omega) (fun v20 e21 => to_go (pc := 28) rw_167_28 ?_)
        exact ih N v20 hG F0 (by omega) (by omega) (by omega)
      · refine to_c (pc := 23) rw_167_23 (x := (1 : Int32)) rfl rfl (s_r1 (pc := 24) rw_167_24 (A := 1) rfl (by decide) ?_)
        have k_22 : (1 : Int32).toInt = 1 := rfl
        exact h (1 : Int32) N hG F0 (by decide) (by decide)
set_option maxRecDepth 4000 in
set_option maxHeartbeats 0 in
theorem C_167 {X : mm_X} {d : Nat} {M : mm_M} {Q : Option Value → mm_M → Prop} {n : Int32} (hX : g_X X) (hd : 1 ≤ d) (hG : g_G M) (h : ∀ (r : Int32) (M1 : mm_M), g_G M1 → FR md_0 M M1 → (0 ≤ r.toInt) → (r.toInt ≤ 1) → Q (some (.int r)) M1) : mm_T X d 166 0 [.ref 77, .int n, .null] [] M Q := by
  have F0 : FR md_0 M M := FR.rf
  refine to_c (pc := 0) rw_167_0 (x := (0 : Int32)) rfl rfl (to_isn (pc := 1) rw_167_1 (ls2 := [.ref 77, .int n, .int (0 : Int32)]) rfl rfl ?_)
  have k_23 : (0 : Int32).toInt = 0 := rfl
  exact (T_167_0 (n := n) hX hd  h ((12 - (0 : Int32).toInt).toNat + 1)) M (0 : Int32) hG F0 (by omega) (by omega) (by omega)
set_option maxRecDepth 4000 in
set_option maxHeartbeats 0 in
theorem T_168_0 {X : mm_X} {d : Nat} {M : mm_M} {Q : Option Value → mm_M → Prop} {a : Int32} {b : Int32} (hX : g_X X) (hd : 0 ≤ d) (q1 : 0 ≤ a.toInt) (q2 : a.toInt ≤ 64) (q3 : b.toInt ≤ 63) (h : ∀ (r : Int64) (M1 : mm_M), g_G M1 → FR md_0 M M1 → Q (some (.long r)) M1) : ∀ nn9 : Nat, (∀ (N : mm_M) (u0 : Value) (y2 : Int64) (x4 : Int32), g_G N → FR md_0 M N → (0 ≤ x4.toInt) → (x4.toInt ≤ 64) → 64 - x4.toInt < (nn9 : Int) → mm_T X d 167 5 [u0, .int b, .long y2, .null, .int x4] [] N Q) := by
  intro nn9
  induction nn9 with
  | zero =>
    intro N u0 y2 x4 hG F0 g1 g2 hm
    exfalso; omega
  | succ nn9 ih =>
    intro N u0 y2 x4 hG F0 g1 g2 hm
    refine to_i (pc := 5) rw_168_5 rfl (to_in (pc := 7) rw_168_7 rfl (b_cgt (pc := 8) rw_168_8 (A := x4.toInt) (B := b.toInt) rfl rfl (fun h1 => ?_) (fun h1 => ?_)))
    · refine to_ln (pc := 24) rw_168_24 rfl rfl rfl (to_rl (pc := 25) rw_168_25 ?_)
      exact h y2 N hG F0 
    · refine to_ln (pc := 11) rw_168_11 rfl rfl rfl (s_cl (pc := 12) rw_168_12 rfl (fun l2 => to_i (pc := 13) rw_168_13 rfl (s_anyS (pc := 15) rw_168_15 (fun _ _ => rfl) (fun l3 => s_anyL (pc := 16) rw_168_16 (fun _ _ => rfl) (fun l4 => to_lsn (pc := 17) rw_168_17 (ls2 := [u0, .int b, .long l4, .null, .int x4]) rfl rfl (s_inc (pc := 18) rw_168_18 (ls2 := fun v => [u0, .int b, .long l4, .null, .int v]) rfl rfl (fun _ => rfl) (A := x4.toInt) (B := 1) rfl rfl (by omega) (fun v5 e6 => to_go (pc := 21) rw_168_21 ?_)))))))
      exact ih N (u0) l4 v5 hG F0 (by omega) (by omega) (by omega)
set_option maxRecDepth 4000 in
set_option maxHeartbeats 0 in
theorem C_168 {X : mm_X} {d : Nat} {M : mm_M} {Q : Option Value → mm_M → Prop} {a : Int32} {b : Int32} (hX : g_X X) (hd : 0 ≤ d) (hG : g_G M) (q1 : 0 ≤ a.toInt) (q2 : a.toInt ≤ 64) (q3 : b.toInt ≤ 63) (h : ∀ (r : Int64) (M1 : mm_M), g_G M1 → FR md_0 M M1 → Q (some (.long r)) M1) : mm_T X d 167 0 [.int a, .int b, .null, .null, .null] [] M Q := by
  have F0 : FR md_0 M M := FR.rf
  refine s_cl (pc := 0) rw_168_0 rfl (fun l7 => to_lsn (pc := 1) rw_168_1 (ls2 := [.int a, .int b, .long l7, .null, .null]) rfl rfl (to_in (pc := 2) rw_168_2 rfl (to_is (pc := 3) rw_168_3 (ls2 := [.int a, .int b, .long l7, .null, .int a]) rfl rfl ?_)))
  exact (T_168_0 (a := a) (b := b) hX hd q1 q2 q3 h ((64 - a.toInt).toNat + 1)) M (.int a) l7 a hG F0 (by omega) (by omega) (by omega)
set_option maxRecDepth 4000 in
set_option maxHeartbeats 0 in
theorem C_169 {X : mm_X} {d : Nat} {M : mm_M} {Q : Option Value → mm_M → Prop} (hX : g_X X) (hd : 2 ≤ d) (hG : g_G M) (h : ∀ (r : Int32) (M1 : mm_M), g_G M1 → FR md_wr2 M M1 → (0 ≤ r.toInt) → (r.toInt ≤ 1) → (r.toInt = 1 → (M1.2.1 77 4).toInt = (M.2.1 77 4).toInt ∧ (M1.2.1 77 5).toInt = (M.2.1 77 5).toInt) → Q (some (.int r)) M1) : mm_T X d 168 0 [.ref 77] [] M Q := by
  have F0 : FR md_wr2 M M := FR.rf
  refine to_an (pc := 0) rw_169_0 rfl ?_
  have b_1 := g_b hG (a := 77) (i := 8) (lo := 0) (hi := 5) rfl rfl
  refine tt_gI (pc := 1) rw_169_1 (g_o hG rfl) (v := (M.2.1 77 8)) rfl (to_c (pc := 4) rw_169_4 (x := (2 : Int32)) rfl rfl (b_ceq (pc := 5) rw_169_5 (A := (M.2.1 77 8).toInt) (B := 2) rfl rfl (fun h2 => ?_) (fun h2 => ?_)))
  · refine to_an (pc := 14) rw_169_14 rfl (to_an (pc := 15) rw_169_15 rfl (tt_gI (pc := 16) rw_169_16 (g_o hG rfl) (v := (M.2.1 77 9)) rfl (s_v (pc := 19) rw_169_19 (dp0 hd (by decide)) (ls0 := [.ref 77, .int (M.2.1 77 9), .null]) rfl (Nat.le_of_ble_eq_true rfl) (Nat.le_of_ble_eq_true rfl) rfl (to_rc rfl rfl rfl (g_o hG rfl)) rfl (C_167 hX (dp1 hd (by decide)) hG (n := (M.2.1 77 9)) (fun r3 M8 hG5 F4 p_6 p_7 => ?_)))))
    have F9 := FR.c F0 F4 tg_36
    refine b_ieq (pc := 22) rw_169_22 (A := r3.toInt) rfl (fun h10 => ?_) (fun h10 => ?_)
    · refine to_c (pc := 33) rw_169_33 (x := (1 : Int32)) rfl rfl (to_go (pc := 34) rw_169_34 (s_r1 (pc := 38) rw_169_38 (A := 1) rfl (by decide) ?_))
      have k_11 : (1 : Int32).toInt = 1 := rfl
      have c_12 : M8.2.1 77 4 = (M.2.1 77 4) := (F_n F4 (show ¬ (77 < 0) by decide) rfl)
      have t_13 : (M8.2.1 77 4).toInt = (M.2.1 77 4).toInt := congrArg Int32.toInt c_12
      have c_14 : M8.2.1 77 5 = (M.2.1 77 5) := (F_n F4 (show ¬ (77 < 0) by decide) rfl)
      have t_15 : (M8.2.1 77 5).toInt = (M.2.1 77 5).toInt := congrArg Int32.toInt c_14
      exact h (1 : Int32) M8 hG5 F9 (by decide) (by decide) (by omega)
    · refine to_an (pc := 25) rw_169_25 rfl (to_c (pc := 26) rw_169_26 (x := (3 : Int32)) rfl rfl (s_v (pc := 27) rw_169_27 (dp0 hd (by decide)) (ls0 := [.ref 77, .int (3 : Int32)]) rfl (Nat.le_of_ble_eq_true rfl) (Nat.le_of_ble_eq_true rfl) rfl (to_rc rfl rfl rfl (g_o hG5 rfl)) rfl (to_an (pc := 0) rw_152_0 rfl (to_in (pc := 1) rw_152_1 rfl (s_pI (pc := 2) rw_152_2 hG5 rfl (fun M17 W16 => ?_))))))
      have hG18 := g_wf hG5 W16 rfl rfl (by decide)
      have F19 := FR.w F9 W16 (show 77 = 77 ∧ (4 = 4 ∨ 4 = 5) by decide)
      refine to_an (pc := 5) rw_152_5 rfl (to_an (pc := 6) rw_152_6 rfl ?_)
      have c_20 : M17.2.1 77 10 = (M.2.1 77 10) := (W_n W16 (by decide) (F_n F4 (show ¬ (77 < 0) by decide) rfl))
      have b_21 := g_b hG (a := 77) (i := 10) (lo := 0) (hi := 500) rfl rfl
      refine tt_gI (pc := 7) rw_152_7 (g_o hG18 rfl) (v := (M.2.1 77 10)) c_20 (s_pI (pc := 10) rw_152_10 hG18 rfl (fun M23 W22 => ?_))
      have hG24 := g_wf hG18 W22 rfl rfl (by decide)
      have F25 := FR.w F19 W22 (show 77 = 77 ∧ (5 = 4 ∨ 5 = 5) by decide)
      refine to_c (pc := 13) rw_152_13 (x := (0 : Int32)) rfl rfl (s_r1 (pc := 14) rw_152_14 (A := 0) rfl (by decide) (b_ieq_t (pc := 30) rw_169_30 (A := 0) rfl (by decide) (to_c (pc := 37) rw_169_37 (x := (0 : Int32)) rfl rfl (s_r1 (pc := 38) rw_169_38 (A := 0) rfl (by decide) ?_))))
      have k_26 : (0 : Int32).toInt = 0 := rfl
      have c_27 : M23.2.1 77 4 = (3 : Int32) := (W_n W22 (by decide) (W_e W16))
      have k_28 : (3 : Int32).toInt = 3 := rfl
      have t_29 : (M23.2.1 77 4).toInt = (3 : Int32).toInt := congrArg Int32.toInt c_27
      have c_30 : M23.2.1 77 5 = (M.2.1 77 10) := (W_e W22)
      have t_31 : (M23.2.1 77 5).toInt = (M.2.1 77 10).toInt := congrArg Int32.toInt c_30
      exact h (0 : Int32) M23 hG24 F25 (by decide) (by decide) (by omega)
  · refine to_an (pc := 8) rw_169_8 rfl (to_c (pc := 9) rw_169_9 (x := (1 : Int32)) rfl rfl (s_v (pc := 10) rw_169_10 (dp0 hd (by decide)) (ls0 := [.ref 77, .int (1 : Int32)]) rfl (Nat.le_of_ble_eq_true rfl) (Nat.le_of_ble_eq_true rfl) rfl (to_rc rfl rfl rfl (g_o hG rfl)) rfl (to_an (pc := 0) rw_152_0 rfl (to_in (pc := 1) rw_152_1 rfl (s_pI (pc := 2) rw_152_2 hG rfl (fun M33 W32 => ?_))))))
    have hG34 := g_wf hG W32 rfl rfl (by decide)
    have F35 := FR.w F0 W32 (show 77 = 77 ∧ (4 = 4 ∨ 4 = 5) by decide)
    refine to_an (pc := 5) rw_152_5 rfl (to_an (pc := 6) rw_152_6 rfl ?_)
    have c_36 : M33.2.1 77 10 = (M.2.1 77 10) := (W_n W32 (by decide) rfl)
    have b_37 := g_b hG (a := 77) (i := 10) (lo := 0) (hi := 500) rfl rfl
    refine tt_gI (pc := 7) rw_152_7 (g_o hG34 rfl) (v := (M.2.1 77 10)) c_36 (s_pI (pc := 10) rw_152_10 hG34 rfl (fun M39 W38 => ?_))
    have hG40 := g_wf hG34 W38 rfl rfl (by decide)
    have F41 := FR.w F35 W38 (show 77 = 77 ∧ (5 = 4 ∨ 5 = 5) by decide)
    refine to_c (pc := 13) rw_152_13 (x := (0 : Int32)) rfl rfl (s_r1 (pc := 14) rw_152_14 (A := 0) rfl (by decide) (s_r1 (pc := 13) rw_169_13 (A := 0) rfl (by decide) ?_))
    have k_42 : (0 : Int32).toInt = 0 := rfl
    have c_43 : M39.2.1 77 4 = (1 : Int32) := (W_n W38 (by decide) (W_e W32))
    have k_44 : (1 : Int32).toInt = 1 := rfl
    have t_45 : (M39.2.1 77 4).toInt = (1 : Int32).toInt := congrArg Int32.toInt c_43
    have c_46 : M39.2.1 77 5 = (M.2.1 77 10) := (W_e W38)
    have t_47 : (M39.2.1 77 5).toInt = (M.2.1 77 10).toInt := congrArg Int32.toInt c_46
    exact h (0 : Int32) M39 hG40 F41 (by decide) (by decide) (by omega)
set_option maxRecDepth 4000 in
set_option maxHeartbeats 0 in
theorem C_164 {X : mm_X} {d : Nat} {M : mm_M} {Q : Option Value → mm_M → Prop} (hX : g_X X) (hd : 0 ≤ d) (hG : g_G M) (h : ∀ (M1 : mm_M), g_G M1 → FR md_p0 M M1 → ((M1.2.1 77 16).toInt = 0) → ((M1.2.1 77 15).toInt = 0) → ((M1.2.1 77 14).toInt = 10) → Q (none) M1) : mm_T X d 163 0 [.ref 77] [] M Q := by
  have F0 : FR md_p0 M M := FR.rf
  refine to_an (pc := 0) rw_164_0 rfl (to_c (pc := 1) rw_164_1 (x := (10 : Int32)) rfl rfl (s_pI (pc := 3) rw_164_3 hG rfl (fun M2 W1 => ?_)))
  have hG3 := g_w hG W1 (A := 10) rfl (lo := 10) (hi := 60) rfl rfl (by omega) (by decide)
  have F4 := FR.w F0 W1 (show 77 = 77 ∧ (14 ≤ 14 ∧ 14 ≤ 16 ∨ 14 = 25) by decide)
  refine to_an (pc := 6) rw_164_6 rfl (to_c (pc := 7) rw_164_7 (x := (0 : Int32)) rfl rfl (s_pI (pc := 8) rw_164_8 hG3 rfl (fun M6 W5 => ?_)))
  have hG7 := g_w hG3 W5 (A := 0) rfl (lo := 0) (hi := 8) rfl rfl (by omega) (by decide)
  have F8 := FR.w F4 W5 (show 77 = 77 ∧ (14 ≤ 15 ∧ 15 ≤ 16 ∨ 15 = 25) by decide)
  refine to_an (pc := 11) rw_164_11 rfl (to_c (pc := 12) rw_164_12 (x := (0 : Int32)) rfl rfl (s_pI (pc := 13) rw_164_13 hG7 rfl (fun M10 W9 => ?_)))
  have hG11 := g_w hG7 W9 (A := 0) rfl (lo := 0) (hi := 12) rfl rfl (by omega) (by decide)
  have F12 := FR.w F8 W9 (show 77 = 77 ∧ (14 ≤ 16 ∧ 16 ≤ 16 ∨ 16 = 25) by decide)
  refine to_an (pc := 16) rw_164_16 rfl (s_cl (pc := 17) rw_164_17 rfl (fun l13 => s_pJ (pc := 18) rw_164_18 hG11 rfl (fun M15 W14 => ?_)))
  have hG16 := g_wl hG11 W14
  have F17 := FR.wl F12 W14 (show 77 = 77 ∧ (14 ≤ 25 ∧ 25 ≤ 16 ∨ 25 = 25) by decide)
  refine to_rv (pc := 21) rw_164_21 ?_
  have c_18 : M15.2.1 77 16 = (0 : Int32) := (W_l W14 (W_e W9))
  have k_19 : (0 : Int32).toInt = 0 := rfl
  have t_20 : (M15.2.1 77 16).toInt = (0 : Int32).toInt := congrArg Int32.toInt c_18
  have c_21 : M15.2.1 77 15 = (0 : Int32) := (W_l W14 (W_n W9 (by decide) (W_e W5)))
  have t_22 : (M15.2.1 77 15).toInt = (0 : Int32).toInt := congrArg Int32.toInt c_21
  have c_23 : M15.2.1 77 14 = (10 : Int32) := (W_l W14 (W_n W9 (by decide) (W_n W5 (by decide) (W_e W1))))
  have k_24 : (10 : Int32).toInt = 10 := rfl
  have t_25 : (M15.2.1 77 14).toInt = (10 : Int32).toInt := congrArg Int32.toInt c_23
  exact h M15 hG16 F17 (by omega) (by omega) (by omega)
set_option maxRecDepth 4000 in
set_option maxHeartbeats 0 in
theorem T_170_0 {X : mm_X} {d : Nat} {M : mm_M} {Q : Option Value → mm_M → Prop} (hX : g_X X) (hd : 3 ≤ d) (q1 : (M.2.1 77 7).toInt ≤ (M.2.1 77 6).toInt) (q2 : FA M) (q3 : WR M) (h : ∀ (r : Int32) (M1 : mm_M), g_G M1 → FR md_pl M M1 → (0 ≤ r.toInt) → (r.toInt ≤ 1) → ((M1.2.1 77 7).toInt ≤ (M1.2.1 77 6).toInt) → ((M.2.1 77 7).toInt ≤ (M1.2.1 77 7).toInt) → (r.toInt = 1 → (M1.2.1 77 8).toInt = 0 ∨ (M.2.1 77 7).toInt < (M1.2.1 77 7).toInt) → FA M1 → WR M1 → (r.toInt = 1 → (M1.2.1 77 4).toInt = (M.2.1 77 4).toInt ∧ (M1.2.1 77 5).toInt = (M.2.1 77 5).toInt) → Q (some (.int r)) M1) : ∀ nn9 : Nat, (∀ (N : mm_M) (x1 : Int32) (x2 : Int32) (x3 : Int32) (u4 : Value) (u5 : Value) (x6 : Int32) (x7 : Int32) (x8 : Int32), g_G N → FR md_pl M N → (8 ≤ x1.toInt) → (x1.toInt ≤ 15) → (x1.toInt = 8 + (N.2.1 77 15).toInt) → (0 ≤ x3.toInt) → (x3.toInt ≤ 3) → (0 ≤ x6.toInt) → (x6.toInt ≤ 59) → (0 ≤ x7.toInt) → (x7.toInt ≤ 63) → (0 ≤ x8.toInt) → (x8.toInt ≤ 24) → (((x3.toInt = 1 ∨ x3.toInt = 2) → x8.toInt ≤ 10) ∧ (x3.toInt = 3 → 1 ≤ x8.toInt ∧ x8.toInt ≤ 4 ∧ x8.toInt ≤ x7.toInt - x6.toInt + 1) ∧ x6.toInt ≤ x7.toInt) → ((N.2.1 77 7).toInt ≤ (N.2.1 77 6).toInt) → ((M.2.1 77 7).toInt ≤ (N.2.1 77 7).toInt) → ((N.2.1 77 8).toInt = 0 ∨ (M.2.1 77 7).toInt < (N.2.1 77 7).toInt) → (FA N) → (WR N) → ((N.2.1 77 4).toInt = (M.2.1 77 4).toInt ∧ (N.2.1 77 5).toInt = (M.2.1 77 5).toInt) → (0 : Int) < (nn9 : Int) → mm_T X d 169 318 [.ref 77, .int x1, .int x2, .int x3, u4, u5, .int x6, .int x7, .int x8] [] N Q) := by
  intro nn9
  induction nn9 with
  | zero =>
    intro N x1 x2 x3 u4 u5 x6 x7 x8 hG F0 g1 g2 g3 g4 g5 g6 g7 g8 g9 g10 g11 g12 g13 g14 g15 g16 g17 g18 hm
    have b_1 := g_b hG (a := 77) (i := 15) (lo := 0) (hi := 8) rfl rfl
    have b_2 := g_b hG (a := 77) (i := 7) (lo := 0) (hi := 500) rfl rfl
    have b_3 := g_b hG (a := 77) (i := 6) (lo := 0) (hi := 500) rfl rfl
    have b_4 := g_b hG (a := 77) (i := 8) (lo := 0) (hi := 5) rfl rfl
    exfalso; omega
  | succ nn9 ih =>
    intro N x1 x2 x3 u4 u5 x6 x7 x8 hG F0 g1 g2 g3 g4 g5 g6 g7 g8 g9 g10 g11 g12 g13 g14 g15 g16 g17 g18 hm
    have b_5 := g_b hG (a := 77) (i := 15) (lo := 0) (hi := 8) rfl rfl
    have b_6 := g_b hG (a := 77) (i := 7) (lo := 0) (hi := 500) rfl rfl
    have b_7 := g_b hG (a := 77) (i := 6) (lo := 0) (hi := 500) rfl rfl
    have b_8 := g_b hG (a := 77) (i := 8) (lo := 0) (hi := 5) rfl rfl
    refine to_an (pc := 318) rw_170_318 rfl (to_dupr (pc := 319) rw_170_319 (s_gJ (pc := 320) rw_170_320 hG rfl (fun l9 => to_i (pc := 323) rw_170_323 rfl (to_i (pc := 325) rw_170_325 rfl (s_s (pc := 327) rw_170_327 (dp0 hd (by decide)) (ls0 := [.int x6, .int x7, .null, .null, .null]) rfl (Nat.le_of_ble_eq_true rfl) (Nat.le_of_ble_eq_true rfl) rfl (to_rcs rfl rfl) rfl (C_168 hX (dp1 hd (by decide)) hG (by omega) (by omega) (by omega) (a := x6) (b := x7) (fun r10 M13 hG12 F11 => ?_)))))))
    have F14 := FR.c F0 F11 tg_316
    refine s_anyL (pc := 330) rw_170_330 (fun _ _ => rfl) (fun l15 => s_pJ (pc := 331) rw_170_331 hG12 rfl (fun M17 W16 => ?_))
    have hG18 := g_wl hG12 W16
    have F19 := FR.wl F14 W16 (show 77 = 77 ∧ (25 = 4 ∨ 25 = 5 ∨ 7 ≤ 25 ∧ 25 ≤ 10 ∨ 14 ≤ 25 ∧ 25 ≤ 16 ∨ 25 = 25) ∨ 80 ≤ 77 ∧ 77 ≤ 84 ∧ 8 ≤ 25 ∨ 85 ≤ 77 ∧ 77 ≤ 87 ∧ 12 ≤ 25 by decide)
    refine to_an (pc := 334) rw_170_334 rfl (s_gR (pc := 335) rw_170_335 hG18 rfl (v := 80) rfl (to_in (pc := 338) rw_170_338 rfl (to_in (pc := 339) rw_170_339 rfl (s_ias (pc := 340) rw_170_340 hG18 rfl (n := 16) rfl (A := x1.toInt) rfl (by omega) (by omega) (fun M21 W20 => ?_)))))
    have hG22 := g_wf hG18 W20 rfl rfl (by decide)
    have F23 := FR.w F19 W20 (show 80 = 77 ∧ ((x1.toInt).toNat = 4 ∨ (x1.toInt).toNat = 5 ∨ 7 ≤ (x1.toInt).toNat ∧ (x1.toInt).toNat ≤ 10 ∨ 14 ≤ (x1.toInt).toNat ∧ (x1.toInt).toNat ≤ 16 ∨ (x1.toInt).toNat = 25) ∨ 80 ≤ 80 ∧ 80 ≤ 84 ∧ 8 ≤ (x1.toInt).toNat ∨ 85 ≤ 80 ∧ 80 ≤ 87 ∧ 12 ≤ (x1.toInt).toNat by omega)
    have j_24 := (FA_f (fun a i z => W_n W20 (tg_318 a i _ z) rfl) (FA_f (fun a i z => W_l W16 rfl) (FA_f (tg_307 F11) g16)))
    have j_25 := (WR_f (fun a i z => W_n W20 (by /-r80-/ omega) rfl) (WR_f (fun a i z => W_l W16 rfl) (WR_f (tg_308 F11) g17)))
    have c_26 : M21.2.1 77 15 = (N.2.1 77 15) := (W_n W20 (fun z => absurd z.1 (by decide)) (W_l W16 (F_n F11 (show ¬ (77 < 0) by decide) rfl)))
    have t_27 : (M21.2.1 77 15).toInt = (N.2.1 77 15).toInt := congrArg Int32.toInt c_26
    refine to_an (pc := 341) rw_170_341 rfl (s_gR (pc := 342) rw_170_342 hG22 rfl (v := 81) rfl (to_in (pc := 345) rw_170_345 rfl (to_in (pc := 346) rw_170_346 rfl (s_ias (pc := 347) rw_170_347 hG22 rfl (n := 16) rfl (A := x1.toInt) rfl (by omega) (by omega) (fun M29 W28 => ?_)))))
    have hG30 := g_w hG22 W28 (A := x3.toInt) rfl (lo := 0) (hi := 3) rfl rfl (by omega) (by decide)
    have F31 := FR.w F23 W28 (show 81 = 77 ∧ ((x1.toInt).toNat = 4 ∨ (x1.toInt).toNat = 5 ∨ 7 ≤ (x1.toInt).toNat ∧ (x1.toInt).toNat ≤ 10 ∨ 14 ≤ (x1.toInt).toNat ∧ (x1.toInt).toNat ≤ 16 ∨ (x1.toInt).toNat = 25) ∨ 80 ≤ 81 ∧ 81 ≤ 84 ∧ 8 ≤ (x1.toInt).toNat ∨ 85 ≤ 81 ∧ 81 ≤ 87 ∧ 12 ≤ (x1.toInt).toNat by omega)
    refine to_an (pc := 348) rw_170_348 rfl (s_gR (pc := 349) rw_170_349 hG30 rfl (v := 82) rfl (to_in (pc := 352) rw_170_352 rfl (to_i (pc := 353) rw_170_353 rfl (s_ias (pc := 355) rw_170_355 hG30 rfl (n := 16) rfl (A := x1.toInt) rfl (by omega) (by omega) (fun M33 W32 => ?_)))))
    have hG34 := g_w hG30 W32 (A := x6.toInt) rfl (lo := 0) (hi := 59) rfl rfl (by omega) (by decide)
    have F35 := FR.w F31 W32 (show 82 = 77 ∧ ((x1.toInt).toNat = 4 ∨ (x1.toInt).toNat = 5 ∨ 7 ≤ (x1.toInt).toNat ∧ (x1.toInt).toNat ≤ 10 ∨ 14 ≤ (x1.toInt).toNat ∧ (x1.toInt).toNat ≤ 16 ∨ (x1.toInt).toNat = 25) ∨ 80 ≤ 82 ∧ 82 ≤ 84 ∧ 8 ≤ (x1.toInt).toNat ∨ 85 ≤ 82 ∧ 82 ≤ 87 ∧ 12 ≤ (x1.toInt).toNat by omega)
    refine to_an (pc := 356) rw_170_356 rfl (s_gR (pc := 357) rw_170_357 hG34 rfl (v := 83) rfl (to_in (pc := 360) rw_170_360 rfl (to_i (pc := 361) rw_170_361 rfl (s_ias (pc := 363) rw_170_363 hG34 rfl (n := 16) rfl (A := x1.toInt) rfl (by omega) (by omega) (fun M37 W36 => ?_)))))
    have hG38 := g_w hG34 W36 (A := x7.toInt) rfl (lo := 0) (hi := 63) rfl rfl (by omega) (by decide)
    have F39 := FR.w F35 W36 (show 83 = 77 ∧ ((x1.toInt).toNat = 4 ∨ (x1.toInt).toNat = 5 ∨ 7 ≤ (x1.toInt).toNat ∧ (x1.toInt).toNat ≤ 10 ∨ 14 ≤ (x1.toInt).toNat ∧ (x1.toInt).toNat ≤ 16 ∨ (x1.toInt).toNat = 25) ∨ 80 ≤ 83 ∧ 83 ≤ 84 ∧ 8 ≤ (x1.toInt).toNat ∨ 85 ≤ 83 ∧ 83 ≤ 87 ∧ 12 ≤ (x1.toInt).toNat by omega)
    refine to_an (pc := 364) rw_170_364 rfl (s_gR (pc := 365) rw_170_365 hG38 rfl (v := 84) rfl (to_in (pc := 368) rw_170_368 rfl (to_i (pc := 369) rw_170_369 rfl (s_ias (pc := 371) rw_170_371 hG38 rfl (n := 16) rfl (A := x1.toInt) rfl (by omega) (by omega) (fun M41 W40 => ?_)))))
    have hG42 := g_w hG38 W40 (A := x8.toInt) rfl (lo := 0) (hi := 24) rfl rfl (by omega) (by decide)
    have F43 := FR.w F39 W40 (show 84 = 77 ∧ ((x1.toInt).toNat = 4 ∨ (x1.toInt).toNat = 5 ∨ 7 ≤ (x1.toInt).toNat ∧ (x1.toInt).toNat ≤ 10 ∨ 14 ≤ (x1.toInt).toNat ∧ (x1.toInt).toNat ≤ 16 ∨ (x1.toInt).toNat = 25) ∨ 80 ≤ 84 ∧ 84 ≤ 84 ∧ 8 ≤ (x1.toInt).toNat ∨ 85 ≤ 84 ∧ 84 ≤ 87 ∧ 12 ≤ (x1.toInt).toNat by omega)
    have j_44 := FA_k j_24 W28 W32 W36 W40 (by omega)
    refine to_an (pc := 372) rw_170_372 rfl (to_dupr (pc := 373) rw_170_373 ?_)
    have c_45 : M41.2.1 77 15 = (N.2.1 77 15) := (W_n W40 (fun z => absurd z.1 (by decide)) (W_n W36 (fun z => absurd z.1 (by decide)) (W_n W32 (fun z => absurd z.1 (by decide)) (W_n W28 (fun z => absurd z.1 (by decide)) c_26))))
    refine tt_gI (pc := 374) rw_170_374 (g_o hG42 rfl) (v := (N.2.1 77 15)) c_45 (to_c (pc := 377) rw_170_377 (x := (1 : Int32)) rfl rfl (s_add (pc := 378) rw_170_378 (A := (N.2.1 77 15).toInt) (B := 1) rfl rfl (by omega) (fun v46 e47 => s_pI (pc := 379) rw_170_379 hG42 rfl (fun M49 W48 => ?_))))
    have hG50 := g_w hG42 W48 (A := v46.toInt) rfl (lo := 0) (hi := 8) rfl rfl (by omega) (by decide)
    have F51 := FR.w F43 W48 (show 77 = 77 ∧ (15 = 4 ∨ 15 = 5 ∨ 7 ≤ 15 ∧ 15 ≤ 10 ∨ 14 ≤ 15 ∧ 15 ≤ 16 ∨ 15 = 25) ∨ 80 ≤ 77 ∧ 77 ≤ 84 ∧ 8 ≤ 15 ∨ 85 ≤ 77 ∧ 77 ≤ 87 ∧ 12 ≤ 15 by decide)
    have j_52 := WR_field (M1 := M49) (n := ((M21.2.1 77 15).toInt).toNat) j_25 (by omega) (W_n W48 (by omega) (W_n W40 (by omega) (W_n W36 (by omega) (W_n W32 (by omega) (W_n W28 (by omega) rfl))))) (fun i => (W_n W48 (by omega) (W_n W40 (by omega) (W_n W36 (by omega) (W_n W32 (by omega) (W_n W28 (by omega) rfl)))))) (fun i z => (W_n W48 (by omega) (W_n W40 (by omega) (W_n W36 (by omega) (W_n W32 (by omega) (W_n W28 (by omega) rfl)))))) (by have z := congrArg Int32.toInt (W_e W48); omega)
    refine to_c (pc := 382) rw_170_382 (x := (1 : Int32)) rfl rfl (s_r1 (pc := 383) rw_170_383 (A := 1) rfl (by decide) ?_)
    have k_53 : (1 : Int32).toInt = 1 := rfl
    have c_54 : M49.2.1 77 7 = (N.2.1 77 7) := (W_n W48 (by decide) (W_n W40 (fun z => absurd z.1 (by decide)) (W_n W36 (fun z => absurd z.1 (by decide)) (W_n W32 (fun z => absurd z.1 (by decide)) (W_n W28 (fun z => absurd z.1 (by decide)) (W_n W20 (fun z => absurd z.1 (by decide)) (W_l W16 (F_n F11 (show ¬ (77 < 0) by decide) rfl))))))))
    have t_55 : (M49.2.1 77 7).toInt = (N.2.1 77 7).toInt := congrArg Int32.toInt c_54
    have c_56 : M49.2.1 77 6 = (N.2.1 77 6) := (W_n W48 (by decide) (W_n W40 (fun z => absurd z.1 (by decide)) (W_n W36 (fun z => absurd z.1 (by decide)) (W_n W32 (fun z => absurd z.1 (by decide)) (W_n W28 (fun z => absurd z.1 (by decide)) (W_n W20 (fun z => absurd z.1 (by decide)) (W_l W16 (F_n F11 (show ¬ (77 < 0) by decide) rfl))))))))
    have t_57 : (M49.2.1 77 6).toInt = (N.2.1 77 6).toInt := congrArg Int32.toInt c_56
    have c_58 : M49.2.1 77 8 = (N.2.1 77 8) := (W_n W48 (by decide) (W_n W40 (fun z => absurd z.1 (by decide)) (W_n W36 (fun z => absurd z.1 (by decide)) (W_n W32 (fun z => absurd z.1 (by decide)) (W_n W28 (fun z => absurd z.1 (by decide)) (W_n W20 (fun z => absurd z.1 (by decide)) (W_l W16 (F_n F11 (show ¬ (77 < 0) by decide) rfl))))))))
    have t_59 : (M49.2.1 77 8).toInt = (N.2.1 77 8).toInt := congrArg Int32.toInt c_58
    have j_60 := (FA_f (fun a i z => W_n W48 (tg_319 a i z) rfl) j_44)
    have c_61 : M49.2.1 77 4 = (N.2.1 77 4) := (W_n W48 (by decide) (W_n W40 (fun z => absurd z.1 (by decide)) (W_n W36 (fun z => absurd z.1 (by decide)) (W_n W32 (fun z => absurd z.1 (by decide)) (W_n W28 (fun z => absurd z.1 (by decide)) (W_n W20 (fun z => absurd z.1 (by decide)) (W_l W16 (F_n F11 (show ¬ (77 < 0) by decide) rfl))))))))
    have t_62 : (M49.2.1 77 4).toInt = (N.2.1 77 4).toInt := congrArg Int32.toInt c_61
    have c_63 : M49.2.1 77 5 = (N.2.1 77 5) := (W_n W48 (by decide) (W_n W40 (fun z => absurd z.1 (by decide)) (W_n W36 (fun z => absurd z.1 (by decide)) (W_n W32 (fun z => absurd z.1 (by decide)) (W_n W28 (fun z => absurd z.1 (by decide)) (W_n W20 (fun z => absurd z.1 (by decide)) (W_l W16 (F_n F11 (show ¬ (77 < 0) by decide) rfl))))))))
    have t_64 : (M49.2.1 77 5).toInt = (N.2.1 77 5).toInt := congrArg Int32.toInt c_63
    exact h (1 : Int32) M49 hG50 F51 (by decide) (by decide) (by omega) (by omega) (by omega) j_60 j_52 (by omega)
set_option maxRecDepth 4000 in
set_option maxHeartbeats 0 in
theorem C_170 {X : mm_X} {d : Nat} {M : mm_M} {Q : Option Value → mm_M → Prop} (hX : g_X X) (hd : 3 ≤ d) (hG : g_G M) (q1 : (M.2.1 77 7).toInt ≤ (M.2.1 77 6).toInt) (q2 : FA M) (q3 : WR M) (h : ∀ (r : Int32) (M1 : mm_M), g_G M1 → FR md_pl M M1 → (0 ≤ r.toInt) → (r.toInt ≤ 1) → ((M1.2.1 77 7).toInt ≤ (M1.2.1 77 6).toInt) → ((M.2.1 77 7).toInt ≤ (M1.2.1 77 7).toInt) → (r.toInt = 1 → (M1.2.1 77 8).toInt = 0 ∨ (M.2.1 77 7).toInt < (M1.2.1 77 7).toInt) → FA M1 → WR M1 → (r.toInt = 1 → (M1.2.1 77 4).toInt = (M.2.1 77 4).toInt ∧ (M1.2.1 77 5).toInt = (M.2.1 77 5).toInt) → Q (some (.int r)) M1) : mm_T X d 169 0 [.ref 77, .null, .null, .null, .null, .null, .null, .null, .null] [] M Q := by
  have F0 : FR md_pl M M := FR.rf
  have b_65 := g_b hG (a := 77) (i := 7) (lo := 0) (hi := 500) rfl rfl
  have b_66 := g_b hG (a := 77) (i := 6) (lo := 0) (hi := 500) rfl rfl
  refine to_an (pc := 0) rw_170_0 rfl ?_
  have b_67 := g_b hG (a := 77) (i := 15) (lo := 0) (hi := 8) rfl rfl
  refine tt_gI (pc := 1) rw_170_1 (g_o hG rfl) (v := (M.2.1 77 15)) rfl (to_c (pc := 4) rw_170_4 (x := (8 : Int32)) rfl rfl (b_cne (pc := 6) rw_170_6 (A := (M.2.1 77 15).toInt) (B := 8) rfl rfl (fun h68 => ?_) (fun h68 => ?_)))
  · refine to_an (pc := 15) rw_170_15 rfl (s_v (pc := 16) rw_170_16 (dp0 hd (by decide)) (ls0 := [.ref 77]) rfl (Nat.le_of_ble_eq_true rfl) (Nat.le_of_ble_eq_true rfl) rfl (to_rc rfl rfl rfl (g_o hG rfl)) rfl (C_156 hX (dp1 hd (by decide)) hG (by omega)  (fun M74 hG70 F69 p_71 p_72 p_73 => ?_)))
    have F75 := FR.c F0 F69 tg_79
    have b_76 := g_b hG70 (a := 77) (i := 7) (lo := 0) (hi := 500) rfl rfl
    have c_77 : M74.2.1 77 6 = (M.2.1 77 6) := (F_n F69 (show ¬ (77 = 77 ∧ 7 ≤ 6 ∧ 6 ≤ 10) by decide) rfl)
    have t_78 : (M74.2.1 77 6).toInt = (M.2.1 77 6).toInt := congrArg Int32.toInt c_77
    have b_79 := g_b hG70 (a := 77) (i := 8) (lo := 0) (hi := 5) rfl rfl
    refine to_an (pc := 19) rw_170_19 rfl (s_v (pc := 20) rw_170_20 (dp0 hd (by decide)) (ls0 := [.ref 77]) rfl (Nat.le_of_ble_eq_true rfl) (Nat.le_of_ble_eq_true rfl) rfl (to_rc rfl rfl rfl (g_o hG70 rfl)) rfl ?_)
    have c_80 : M74.2.1 77 4 = (M.2.1 77 4) := (F_n F69 (show ¬ (77 = 77 ∧ 7 ≤ 4 ∧ 4 ≤ 10) by decide) rfl)
    have t_81 : (M74.2.1 77 4).toInt = (M.2.1 77 4).toInt := congrArg Int32.toInt c_80
    have c_82 : M74.2.1 77 5 = (M.2.1 77 5) := (F_n F69 (show ¬ (77 = 77 ∧ 7 ≤ 5 ∧ 5 ≤ 10) by decide) rfl)
    have t_83 : (M74.2.1 77 5).toInt = (M.2.1 77 5).toInt := congrArg Int32.toInt c_82
    refine C_169 hX (dp1 hd (by decide)) hG70  (fun r84 M90 hG86 F85 p_87 p_88 p_89 => ?_)
    have F91 := FR.c F75 F85 tg_80
    refine b_ine (pc := 23) rw_170_23 (A := r84.toInt) rfl (fun h92 => ?_) (fun h92 => ?_)
    · refine to_c (pc := 28) rw_170_28 (x := (8 : Int32)) rfl rfl (to_an (pc := 30) rw_170_30 rfl ?_)
      have c_93 : M90.2.1 77 15 = (M.2.1 77 15) := (F_n F85 (show ¬ (77 = 77 ∧ (15 = 4 ∨ 15 = 5)) by decide) (F_n F69 (show ¬ (77 = 77 ∧ 7 ≤ 15 ∧ 15 ≤ 10) by decide) rfl))
      refine tt_gI (pc := 31) rw_170_31 (g_o hG86 rfl) (v := (M.2.1 77 15)) c_93 (s_add (pc := 34) rw_170_34 (A := 8) (B := (M.2.1 77 15).toInt) rfl rfl (by omega) (fun v94 e95 => to_isn (pc := 35) rw_170_35 (ls2 := [.ref 77, .int v94, .null, .null, .null, .null, .null, .null, .null]) rfl rfl (to_an (pc := 36) rw_170_36 rfl ?_)))
      have c_96 : M90.2.1 77 9 = (M74.2.1 77 9) := (F_n F85 (show ¬ (77 = 77 ∧ (9 = 4 ∨ 9 = 5)) by decide) rfl)
      refine tt_gI (pc := 37) rw_170_37 (g_o hG86 rfl) (v := (M74.2.1 77 9)) c_96 (to_isn (pc := 40) rw_170_40 (ls2 := [.ref 77, .int v94, .int (M74.2.1 77 9), .null, .null, .null, .null, .null, .null]) rfl rfl (to_an (pc := 41) rw_170_41 rfl (s_v (pc := 42) rw_170_42 (dp0 hd (by decide)) (ls0 := [.ref 77]) rfl (Nat.le_of_ble_eq_true rfl) (Nat.le_of_ble_eq_true rfl) rfl (to_rc rfl rfl rfl (g_o hG86 rfl)) rfl ?_)))
      have c_97 : M90.2.1 77 7 = (M74.2.1 77 7) := (F_n F85 (show ¬ (77 = 77 ∧ (7 = 4 ∨ 7 = 5)) by decide) rfl)
      have t_98 : (M90.2.1 77 7).toInt = (M74.2.1 77 7).toInt := congrArg Int32.toInt c_97
      have c_99 : M90.2.1 77 6 = (M.2.1 77 6) := (F_n F85 (show ¬ (77 = 77 ∧ (6 = 4 ∨ 6 = 5)) by decide) c_77)
      have t_100 : (M90.2.1 77 6).toInt = (M.2.1 77 6).toInt := congrArg Int32.toInt c_99
      refine C_156 hX (dp1 hd (by decide)) hG86 (by omega)  (fun M106 hG102 F101 p_103 p_104 p_105 => ?_)
      have F107 := FR.c F91 F101 tg_79
      have b_108 := g_b hG102 (a := 77) (i := 7) (lo := 0) (hi := 500) rfl rfl
      have c_109 : M106.2.1 77 6 = (M.2.1 77 6) := (F_n F101 (show ¬ (77 = 77 ∧ 7 ≤ 6 ∧ 6 ≤ 10) by decide) c_99)
      have t_110 : (M106.2.1 77 6).toInt = (M.2.1 77 6).toInt := congrArg Int32.toInt c_109
      have b_111 := g_b hG102 (a := 77) (i := 8) (lo := 0) (hi := 5) rfl rfl
      refine to_an (pc := 45) rw_170_45 rfl (tt_gI (pc := 46) rw_170_46 (g_o hG102 rfl) (v := (M106.2.1 77 8)) rfl (to_c (pc := 49) rw_170_49 (x := (1 : Int32)) rfl rfl (b_cne (pc := 50) rw_170_50 (A := (M106.2.1 77 8).toInt) (B := 1) rfl rfl (fun h112 => ?_) (fun h112 => ?_))))
      · refine to_an (pc := 70) rw_170_70 rfl (to_c (pc := 71) rw_170_71 (x := (1 : Int32)) rfl rfl (s_v (pc := 72) rw_170_72 (dp0 hd (by decide)) (ls0 := [.ref 77, .int (1 : Int32)]) rfl (Nat.le_of_ble_eq_true rfl) (Nat.le_of_ble_eq_true rfl) rfl (to_rc rfl rfl rfl (g_o hG102 rfl)) rfl (to_an (pc := 0) rw_152_0 rfl (to_in (pc := 1) rw_152_1 rfl (s_pI (pc := 2) rw_152_2 hG102 rfl (fun M114 W113 => ?_))))))
        have hG115 := g_wf hG102 W113 rfl rfl (by decide)
        have F116 := FR.w F107 W113 (show 77 = 77 ∧ (4 = 4 ∨ 4 = 5 ∨ 7 ≤ 4 ∧ 4 ≤ 10 ∨ 14 ≤ 4 ∧ 4 ≤ 16 ∨ 4 = 25) ∨ 80 ≤ 77 ∧ 77 ≤ 84 ∧ 8 ≤ 4 ∨ 85 ≤ 77 ∧ 77 ≤ 87 ∧ 12 ≤ 4 by decide)
        refine to_an (pc := 5) rw_152_5 rfl (to_an (pc := 6) rw_152_6 rfl ?_)
        have c_117 : M114.2.1 77 10 = (M106.2.1 77 10) := (W_n W113 (by decide) rfl)
        have b_118 := g_b hG102 (a := 77) (i := 10) (lo := 0) (hi := 500) rfl rfl
        refine tt_gI (pc := 7) rw_152_7 (g_o hG115 rfl) (v := (M106.2.1 77 10)) c_117 (s_pI (pc := 10) rw_152_10 hG115 rfl (fun M120 W119 => ?_))
        have hG121 := g_wf hG115 W119 rfl rfl (by decide)
        have F122 := FR.w F116 W119 (show 77 = 77 ∧ (5 = 4 ∨ 5 = 5 ∨ 7 ≤ 5 ∧ 5 ≤ 10 ∨ 14 ≤ 5 ∧ 5 ≤ 16 ∨ 5 = 25) ∨ 80 ≤ 77 ∧ 77 ≤ 84 ∧ 8 ≤ 5 ∨ 85 ≤ 77 ∧ 77 ≤ 87 ∧ 12 ≤ 5 by decide)
        refine to_c (pc := 13) rw_152_13 (x := (0 : Int32)) rfl rfl (s_r1 (pc := 14) rw_152_14 (A := 0) rfl (by decide) (s_r1 (pc := 75) rw_170_75 (A := 0) rfl (by decide) ?_))
        have k_123 : (0 : Int32).toInt = 0 := rfl
        have c_124 : M120.2.1 77 7 = (M106.2.1 77 7) := (W_n W119 (by decide) (W_n W113 (by decide) rfl))
        have t_125 : (M120.2.1 77 7).toInt = (M106.2.1 77 7).toInt := congrArg Int32.toInt c_124
        have c_126 : M120.2.1 77 6 = (M.2.1 77 6) := (W_n W119 (by decide) (W_n W113 (by decide) c_109))
        have t_127 : (M120.2.1 77 6).toInt = (M.2.1 77 6).toInt := congrArg Int32.toInt c_126
        have c_128 : M120.2.1 77 8 = (M106.2.1 77 8) := (W_n W119 (by decide) (W_n W113 (by decide) rfl))
        have t_129 : (M120.2.1 77 8).toInt = (M106.2.1 77 8).toInt := congrArg Int32.toInt c_128
        have j_130 := (FA_f (fun a i z => W_n W119 (tg_320 a i z) rfl) (FA_f (fun a i z => W_n W113 (tg_321 a i z) rfl) (FA_f (tg_309 F101) (FA_f (tg_310 F85) (FA_f (tg_309 F69) q2)))))
        have j_131 := (WR_f (fun a i z => W_n W119 (by /-r77,5-/ omega) rfl) (WR_f (fun a i z => W_n W113 (by /-r77,4-/ omega) rfl) (WR_f (tg_311 F101) (WR_f (tg_312 F85) (WR_f (tg_311 F69) q3)))))
        have c_132 : M120.2.1 77 4 = (1 : Int32) := (W_n W119 (by decide) (W_e W113))
        have k_133 : (1 : Int32).toInt = 1 := rfl
        have t_134 : (M120.2.1 77 4).toInt = (1 : Int32).toInt := congrArg Int32.toInt c_132
        have c_135 : M120.2.1 77 5 = (M106.2.1 77 10) := (W_e W119)
        have t_136 : (M120.2.1 77 5).toInt = (M106.2.1 77 10).toInt := congrArg Int32.toInt c_135
        exact h (0 : Int32) M120 hG121 F122 (by decide) (by decide) (by omega) (by omega) (by omega) j_130 j_131 (by omega)
      · refine to_an (pc := 53) rw_170_53 rfl (tt_gI (pc := 54) rw_170_54 (g_o hG102 rfl) (v := (M106.2.1 77 9)) rfl (to_c (pc := 57) rw_170_57 (x := (3 : Int32)) rfl rfl (b_clt (pc := 58) rw_170_58 (A := (M106.2.1 77 9).toInt) (B := 3) rfl rfl (fun h137 => ?_) (fun h137 => ?_))))
        · refine to_an (pc := 70) rw_170_70 rfl (to_c (pc := 71) rw_170_71 (x := (1 : Int32)) rfl rfl (s_v (pc := 72) rw_170_72 (dp0 hd (by decide)) (ls0 := [.ref 77, .int (1 : Int32)]) rfl (Nat.le_of_ble_eq_true rfl) (Nat.le_of_ble_eq_true rfl) rfl (to_rc rfl rfl rfl (g_o hG102 rfl)) rfl (to_an (pc := 0) rw_152_0 rfl (to_in (pc := 1) rw_152_1 rfl (s_pI (pc := 2) rw_152_2 hG102 rfl (fun M139 W138 => ?_))))))
          have hG140 := g_wf hG102 W138 rfl rfl (by decide)
          have F141 := FR.w F107 W138 (show 77 = 77 ∧ (4 = 4 ∨ 4 = 5 ∨ 7 ≤ 4 ∧ 4 ≤ 10 ∨ 14 ≤ 4 ∧ 4 ≤ 16 ∨ 4 = 25) ∨ 80 ≤ 77 ∧ 77 ≤ 84 ∧ 8 ≤ 4 ∨ 85 ≤ 77 ∧ 77 ≤ 87 ∧ 12 ≤ 4 by decide)
          refine to_an (pc := 5) rw_152_5 rfl (to_an (pc := 6) rw_152_6 rfl ?_)
          have c_142 : M139.2.1 77 10 = (M106.2.1 77 10) := (W_n W138 (by decide) rfl)
          have b_143 := g_b hG102 (a := 77) (i := 10) (lo := 0) (hi := 500) rfl rfl
          refine tt_gI (pc := 7) rw_152_7 (g_o hG140 rfl) (v := (M106.2.1 77 10)) c_142 (s_pI (pc := 10) rw_152_10 hG140 rfl (fun M145 W144 => ?_))
          have hG146 := g_wf hG140 W144 rfl rfl (by decide)
          have F147 := FR.w F141 W144 (show 77 = 77 ∧ (5 = 4 ∨ 5 = 5 ∨ 7 ≤ 5 ∧ 5 ≤ 10 ∨ 14 ≤ 5 ∧ 5 ≤ 16 ∨ 5 = 25) ∨ 80 ≤ 77 ∧ 77 ≤ 84 ∧ 8 ≤ 5 ∨ 85 ≤ 77 ∧ 77 ≤ 87 ∧ 12 ≤ 5 by decide)
          refine to_c (pc := 13) rw_152_13 (x := (0 : Int32)) rfl rfl (s_r1 (pc := 14) rw_152_14 (A := 0) rfl (by decide) (s_r1 (pc := 75) rw_170_75 (A := 0) rfl (by decide) ?_))
          have k_148 : (0 : Int32).toInt = 0 := rfl
          have c_149 : M145.2.1 77 7 = (M106.2.1 77 7) := (W_n W144 (by decide) (W_n W138 (by decide) rfl))
          have t_150 : (M145.2.1 77 7).toInt = (M106.2.1 77 7).toInt := congrArg Int32.toInt c_149
          have c_151 : M145.2.1 77 6 = (M.2.1 77 6) := (W_n W144 (by decide) (W_n W138 (by decide) c_109))
          have t_152 : (M145.2.1 77 6).toInt = (M.2.1 77 6).toInt := congrArg Int32.toInt c_151
          have c_153 : M145.2.1 77 8 = (M106.2.1 77 8) := (W_n W144 (by decide) (W_n W138 (by decide) rfl))
          have t_154 : (M145.2.1 77 8).toInt = (M106.2.1 77 8).toInt := congrArg Int32.toInt c_153
          have j_155 := (FA_f (fun a i z => W_n W144 (tg_320 a i z) rfl) (FA_f (fun a i z => W_n W138 (tg_321 a i z) rfl) (FA_f (tg_309 F101) (FA_f (tg_310 F85) (FA_f (tg_309 F69) q2)))))
          have j_156 := (WR_f (fun a i z => W_n W144 (by /-r77,5-/ omega) rfl) (WR_f (fun a i z => W_n W138 (by /-r77,4-/ omega) rfl) (WR_f (tg_311 F101) (WR_f (tg_312 F85) (WR_f (tg_311 F69) q3)))))
          have c_157 : M145.2.1 77 4 = (1 : Int32) := (W_n W144 (by decide) (W_e W138))
          have k_158 : (1 : Int32).toInt = 1 := rfl
          have t_159 : (M145.2.1 77 4).toInt = (1 : Int32).toInt := congrArg Int32.toInt c_157
          have c_160 : M145.2.1 77 5 = (M106.2.1 77 10) := (W_e W144)
          have t_161 : (M145.2.1 77 5).toInt = (M106.2.1 77 10).toInt := congrArg Int32.toInt c_160
          exact h (0 : Int32) M145 hG146 F147 (by decide) (by decide) (by omega) (by omega) (by omega) j_155 j_156 (by omega)
        · refine to_an (pc := 61) rw_170_61 rfl (tt_gI (pc := 62) rw_170_62 (g_o hG102 rfl) (v := (M106.2.1 77 9)) rfl (to_c (pc := 65) rw_170_65 (x := (6 : Int32)) rfl rfl (b_cle (pc := 67) rw_170_67 (A := (M106.2.1 77 9).toInt) (B := 6) rfl rfl (fun h162 => ?_) (fun h162 => ?_))))
          · refine to_an (pc := 76) rw_170_76 rfl (tt_gI (pc := 77) rw_170_77 (g_o hG102 rfl) (v := (M106.2.1 77 9)) rfl (to_c (pc := 80) rw_170_80 (x := (3 : Int32)) rfl rfl (s_sub (pc := 81) rw_170_81 (A := (M106.2.1 77 9).toInt) (B := 3) rfl rfl (by omega) (fun v163 e164 => to_isn (pc := 82) rw_170_82 (ls2 := [.ref 77, .int v94, .int (M74.2.1 77 9), .int v163, .null, .null, .null, .null, .null]) rfl rfl (to_an (pc := 83) rw_170_83 rfl (s_v (pc := 84) rw_170_84 (dp0 hd (by decide)) (ls0 := [.ref 77]) rfl (Nat.le_of_ble_eq_true rfl) (Nat.le_of_ble_eq_true rfl) rfl (to_rc rfl rfl rfl (g_o hG102 rfl)) rfl (C_156 hX (dp1 hd (by decide)) hG102 (by omega)  (fun M170 hG166 F165 p_167 p_168 p_169 => ?_))))))))
            have F171 := FR.c F107 F165 tg_79
            have b_172 := g_b hG166 (a := 77) (i := 7) (lo := 0) (hi := 500) rfl rfl
            have c_173 : M170.2.1 77 6 = (M.2.1 77 6) := (F_n F165 (show ¬ (77 = 77 ∧ 7 ≤ 6 ∧ 6 ≤ 10) by decide) c_109)
            have t_174 : (M170.2.1 77 6).toInt = (M.2.1 77 6).toInt := congrArg Int32.toInt c_173
            have b_175 := g_b hG166 (a := 77) (i := 8) (lo := 0) (hi := 5) rfl rfl
            refine to_in (pc := 87) rw_170_87 rfl (b_ieq (pc := 88) rw_170_88 (A := v163.toInt) rfl (fun h176 => ?_) (fun h176 => ?_))
            · refine to_c (pc := 96) rw_170_96 (x := (1 : Int32)) rfl rfl (to_go (pc := 97) rw_170_97 (to_is (pc := 101) rw_170_101 (ls2 := [.ref 77, .int v94, .int (M74.2.1 77 9), .int v163, .int (1 : Int32), .null, .null, .null, .null]) rfl rfl (to_in (pc := 103) rw_170_103 rfl (to_c (pc := 104) rw_170_104 (x := (1 : Int32)) rfl rfl (b_cne_t (pc := 105) rw_170_105 (A := v163.toInt) (B := 1) rfl rfl (by omega) (to_in (pc := 112) rw_170_112 rfl (to_c (pc := 113) rw_170_113 (x := (2 : Int32)) rfl rfl (b_cne_t (pc := 114) rw_170_114 (A := v163.toInt) (B := 2) rfl rfl (by omega) (to_c (pc := 121) rw_170_121 (x := (0 : Int32)) rfl rfl (to_is (pc := 122) rw_170_122 (ls2 := [.ref 77, .int v94, .int (M74.2.1 77 9), .int v163, .int (1 : Int32), .int (0 : Int32), .null, .null, .null]) rfl rfl (to_an (pc := 124) rw_170_124 rfl ?_)))))))))))
              refine to_c (pc := 125) rw_170_125 (x := (0 : Int32)) rfl rfl (to_an (pc := 126) rw_170_126 rfl ?_)
              have c_177 : M170.2.1 77 14 = (M.2.1 77 14) := (F_n F165 (show ¬ (77 = 77 ∧ 7 ≤ 14 ∧ 14 ≤ 10) by decide) (F_n F101 (show ¬ (77 = 77 ∧ 7 ≤ 14 ∧ 14 ≤ 10) by decide) (F_n F85 (show ¬ (77 = 77 ∧ (14 = 4 ∨ 14 = 5)) by decide) (F_n F69 (show ¬ (77 = 77 ∧ 7 ≤ 14 ∧ 14 ≤ 10) by decide) rfl))))
              have b_178 := g_b hG (a := 77) (i := 14) (lo := 10) (hi := 60) rfl rfl
              refine tt_gI (pc := 127) rw_170_127 (g_o hG166 rfl) (v := (M.2.1 77 14)) c_177 (to_c (pc := 130) rw_170_130 (x := (1 : Int32)) rfl rfl (s_sub (pc := 131) rw_170_131 (A := (M.2.1 77 14).toInt) (B := 1) rfl rfl (by omega) (fun v179 e180 => to_i (pc := 132) rw_170_132 rfl (s_sub (pc := 134) rw_170_134 (A := v179.toInt) (B := 0) rfl rfl (by omega) (fun v181 e182 => s_v (pc := 135) rw_170_135 (dp0 hd (by decide)) (ls0 := [.ref 77, .int (0 : Int32), .int v181]) rfl (Nat.le_of_ble_eq_true rfl) (Nat.le_of_ble_eq_true rfl) rfl (to_rc rfl rfl rfl (g_o hG166 rfl)) rfl (to_an (pc := 0) rw_162_0 rfl (tt_gI (pc := 1) rw_162_1 (g_o hG166 rfl) (v := (M170.2.1 77 8)) rfl (to_c (pc := 4) rw_162_4 (x := (3 : Int32)) rfl rfl (b_ceq (pc := 5) rw_162_5 (A := (M170.2.1 77 8).toInt) (B := 3) rfl rfl (fun h183 => ?_) (fun h183 => ?_))))))))))
              · refine to_an (pc := 14) rw_162_14 rfl (tt_gI (pc := 15) rw_162_15 (g_o hG166 rfl) (v := (M170.2.1 77 9)) rfl (to_in (pc := 18) rw_162_18 rfl (b_clt (pc := 19) rw_162_19 (A := (M170.2.1 77 9).toInt) (B := 0) rfl rfl (fun h184 => ?_) (fun h184 => ?_))))
                · refine to_an (pc := 30) rw_162_30 rfl (to_c (pc := 31) rw_162_31 (x := (2 : Int32)) rfl rfl (s_v (pc := 32) rw_162_32 (dp1 hd (by decide)) (ls0 := [.ref 77, .int (2 : Int32)]) rfl (Nat.le_of_ble_eq_true rfl) (Nat.le_of_ble_eq_true rfl) rfl (to_rc rfl rfl rfl (g_o hG166 rfl)) rfl (to_an (pc := 0) rw_152_0 rfl (to_in (pc := 1) rw_152_1 rfl (s_pI (pc := 2) rw_152_2 hG166 rfl (fun M186 W185 => ?_))))))
                  have hG187 := g_wf hG166 W185 rfl rfl (by decide)
                  have F188 := FR.w F171 W185 (show 77 = 77 ∧ (4 = 4 ∨ 4 = 5 ∨ 7 ≤ 4 ∧ 4 ≤ 10 ∨ 14 ≤ 4 ∧ 4 ≤ 16 ∨ 4 = 25) ∨ 80 ≤ 77 ∧ 77 ≤ 84 ∧ 8 ≤ 4 ∨ 85 ≤ 77 ∧ 77 ≤ 87 ∧ 12 ≤ 4 by decide)
                  refine to_an (pc := 5) rw_152_5 rfl (to_an (pc := 6) rw_152_6 rfl ?_)
                  have c_189 : M186.2.1 77 10 = (M170.2.1 77 10) := (W_n W185 (by decide) rfl)
                  have b_190 := g_b hG166 (a := 77) (i := 10) (lo := 0) (hi := 500) rfl rfl
                  refine tt_gI (pc := 7) rw_152_7 (g_o hG187 rfl) (v := (M170.2.1 77 10)) c_189 (s_pI (pc := 10) rw_152_10 hG187 rfl (fun M192 W191 => ?_))
                  have hG193 := g_wf hG187 W191 rfl rfl (by decide)
                  have F194 := FR.w F188 W191 (show 77 = 77 ∧ (5 = 4 ∨ 5 = 5 ∨ 7 ≤ 5 ∧ 5 ≤ 10 ∨ 14 ≤ 5 ∧ 5 ≤ 16 ∨ 5 = 25) ∨ 80 ≤ 77 ∧ 77 ≤ 84 ∧ 8 ≤ 5 ∨ 85 ≤ 77 ∧ 77 ≤ 87 ∧ 12 ≤ 5 by decide)
                  refine to_c (pc := 13) rw_152_13 (x := (0 : Int32)) rfl rfl (s_r1 (pc := 14) rw_152_14 (A := 0) rfl (by decide) (b_ieq_t (pc := 35) rw_162_35 (A := 0) rfl (by decide) (to_c (pc := 42) rw_162_42 (x := (0 : Int32)) rfl rfl (s_r1 (pc := 43) rw_162_43 (A := 0) rfl (by decide) (b_ine_f (pc := 138) rw_170_138 (A := 0) rfl (by decide) (to_c (pc := 141) rw_170_141 (x := (0 : Int32)) rfl rfl (s_r1 (pc := 142) rw_170_142 (A := 0) rfl (by decide) ?_)))))))
                  have k_195 : (0 : Int32).toInt = 0 := rfl
                  have c_196 : M192.2.1 77 7 = (M170.2.1 77 7) := (W_n W191 (by decide) (W_n W185 (by decide) rfl))
                  have t_197 : (M192.2.1 77 7).toInt = (M170.2.1 77 7).toInt := congrArg Int32.toInt c_196
                  have c_198 : M192.2.1 77 6 = (M.2.1 77 6) := (W_n W191 (by decide) (W_n W185 (by decide) c_173))
                  have t_199 : (M192.2.1 77 6).toInt = (M.2.1 77 6).toInt := congrArg Int32.toInt c_198
                  have c_200 : M192.2.1 77 8 = (M170.2.1 77 8) := (W_n W191 (by decide) (W_n W185 (by decide) rfl))
                  have t_201 : (M192.2.1 77 8).toInt = (M170.2.1 77 8).toInt := congrArg Int32.toInt c_200
                  have j_202 := (FA_f (fun a i z => W_n W191 (tg_320 a i z) rfl) (FA_f (fun a i z => W_n W185 (tg_321 a i z) rfl) (FA_f (tg_309 F165) (FA_f (tg_309 F101) (FA_f (tg_310 F85) (FA_f (tg_309 F69) q2))))))
                  have j_203 := (WR_f (fun a i z => W_n W191 (by /-r77,5-/ omega) rfl) (WR_f (fun a i z => W_n W185 (by /-r77,4-/ omega) rfl) (WR_f (tg_311 F165) (WR_f (tg_311 F101) (WR_f (tg_312 F85) (WR_f (tg_311 F69) q3))))))
                  have c_204 : M192.2.1 77 4 = (2 : Int32) := (W_n W191 (by decide) (W_e W185))
                  have k_205 : (2 : Int32).toInt = 2 := rfl
                  have t_206 : (M192.2.1 77 4).toInt = (2 : Int32).toInt := congrArg Int32.toInt c_204
                  have c_207 : M192.2.1 77 5 = (M170.2.1 77 10) := (W_e W191)
                  have t_208 : (M192.2.1 77 5).toInt = (M170.2.1 77 10).toInt := congrArg Int32.toInt c_207
                  exact h (0 : Int32) M192 hG193 F194 (by decide) (by decide) (by omega) (by omega) (by omega) j_202 j_203 (by omega)
                · refine to_an (pc := 22) rw_162_22 rfl (tt_gI (pc := 23) rw_162_23 (g_o hG166 rfl) (v := (M170.2.1 77 9)) rfl (to_in (pc := 26) rw_162_26 rfl (b_cle (pc := 27) rw_162_27 (A := (M170.2.1 77 9).toInt) (B := v181.toInt) rfl rfl (fun h209 => ?_) (fun h209 => ?_))))
                  · refine to_c (pc := 38) rw_162_38 (x := (1 : Int32)) rfl rfl (to_go (pc := 39) rw_162_39 (s_r1 (pc := 43) rw_162_43 (A := 1) rfl (by decide) (b_ine_t (pc := 138) rw_170_138 (A := 1) rfl (by decide) (to_an (pc := 143) rw_170_143 rfl (tt_gI (pc := 144) rw_170_144 (g_o hG166 rfl) (v := (M170.2.1 77 9)) rfl (to_is (pc := 147) rw_170_147 (ls2 := [.ref 77, .int v94, .int (M74.2.1 77 9), .int v163, .int (1 : Int32), .int (0 : Int32), .int (M170.2.1 77 9), .null, .null]) rfl rfl (to_an (pc := 149) rw_170_149 rfl (s_gJ (pc := 150) rw_170_150 hG166 rfl (fun l210 => to_i (pc := 153) rw_170_153 rfl (to_i (pc := 155) rw_170_155 rfl (to_i (pc := 157) rw_170_157 rfl ?_)))))))))))
                    refine s_add (pc := 159) rw_170_159 (A := (M170.2.1 77 9).toInt) (B := 0) rfl rfl (by omega) (fun v211 e212 => s_s (pc := 160) rw_170_160 (dp0 hd (by decide)) (ls0 := [.int (M170.2.1 77 9), .int v211, .null, .null, .null]) rfl (Nat.le_of_ble_eq_true rfl) (Nat.le_of_ble_eq_true rfl) rfl (to_rcs rfl rfl) rfl (C_168 hX (dp1 hd (by decide)) hG166 (by omega) (by omega) (by omega) (a := (M170.2.1 77 9)) (b := v211) (fun r213 M216 hG215 F214 => ?_)))
                    have F217 := FR.c F171 F214 tg_316
                    refine s_anyL (pc := 163) rw_170_163 (fun _ _ => rfl) (fun l218 => s_cl (pc := 164) rw_170_164 rfl (fun l219 => s_lcmp (pc := 165) rw_170_165 (fun v220 => b_ieq (pc := 166) rw_170_166 (A := v220.toInt) rfl (fun h221 => ?_) (fun h221 => ?_))))
                    · refine to_an (pc := 175) rw_170_175 rfl (s_v (pc := 176) rw_170_176 (dp0 hd (by decide)) (ls0 := [.ref 77]) rfl (Nat.le_of_ble_eq_true rfl) (Nat.le_of_ble_eq_true rfl) rfl (to_rc rfl rfl rfl (g_o hG215 rfl)) rfl ?_)
                      have c_222 : M216.2.1 77 7 = (M170.2.1 77 7) := (F_n F214 (show ¬ (77 < 0) by decide) rfl)
                      have t_223 : (M216.2.1 77 7).toInt = (M170.2.1 77 7).toInt := congrArg Int32.toInt c_222
                      have c_224 : M216.2.1 77 6 = (M.2.1 77 6) := (F_n F214 (show ¬ (77 < 0) by decide) c_173)
                      have t_225 : (M216.2.1 77 6).toInt = (M.2.1 77 6).toInt := congrArg Int32.toInt c_224
                      refine C_156 hX (dp1 hd (by decide)) hG215 (by omega)  (fun M231 hG227 F226 p_228 p_229 p_230 => ?_)
                      have F232 := FR.c F217 F226 tg_79
                      have b_233 := g_b hG227 (a := 77) (i := 7) (lo := 0) (hi := 500) rfl rfl
                      have c_234 : M231.2.1 77 6 = (M.2.1 77 6) := (F_n F226 (show ¬ (77 = 77 ∧ 7 ≤ 6 ∧ 6 ≤ 10) by decide) c_224)
                      have t_235 : (M231.2.1 77 6).toInt = (M.2.1 77 6).toInt := congrArg Int32.toInt c_234
                      have b_236 := g_b hG227 (a := 77) (i := 8) (lo := 0) (hi := 5) rfl rfl
                      refine to_i (pc := 179) rw_170_179 rfl (to_i (pc := 181) rw_170_181 rfl (s_add (pc := 183) rw_170_183 (A := (M170.2.1 77 9).toInt) (B := 0) rfl rfl (by omega) (fun v237 e238 => to_is (pc := 184) rw_170_184 (ls2 := [.ref 77, .int v94, .int (M74.2.1 77 9), .int v163, .int (1 : Int32), .int (0 : Int32), .int (M170.2.1 77 9), .int v237, .null]) rfl rfl (to_c (pc := 186) rw_170_186 (x := (10 : Int32)) rfl rfl (to_is (pc := 188) rw_170_188 (ls2 := [.ref 77, .int v94, .int (M74.2.1 77 9), .int v163, .int (1 : Int32), .int (0 : Int32), .int (M170.2.1 77 9), .int v237, .int (10 : Int32)]) rfl rfl (to_i (pc := 190) rw_170_190 rfl (b_ieq_f (pc := 192) rw_170_192 (A := 1) rfl (by decide) (to_an (pc := 195) rw_170_195 rfl (to_in (pc := 196) rw_170_196 rfl (b_ine_f (pc := 197) rw_170_197 (A := v163.toInt) rfl (by omega) (to_i (pc := 200) rw_170_200 rfl ?_)))))))))))
                      refine to_c (pc := 202) rw_170_202 (x := (1 : Int32)) rfl rfl (s_add (pc := 203) rw_170_203 (A := (M170.2.1 77 9).toInt) (B := 1) rfl rfl (by omega) (fun v239 e240 => to_go (pc := 204) rw_170_204 (to_an (pc := 209) rw_170_209 rfl ?_)))
                      have c_241 : M231.2.1 77 14 = (M.2.1 77 14) := (F_n F226 (show ¬ (77 = 77 ∧ 7 ≤ 14 ∧ 14 ≤ 10) by decide) (F_n F214 (show ¬ (77 < 0) by decide) c_177))
                      refine tt_gI (pc := 210) rw_170_210 (g_o hG227 rfl) (v := (M.2.1 77 14)) c_241 (to_c (pc := 213) rw_170_213 (x := (1 : Int32)) rfl rfl (s_sub (pc := 214) rw_170_214 (A := (M.2.1 77 14).toInt) (B := 1) rfl rfl (by omega) (fun v242 e243 => s_v (pc := 215) rw_170_215 (dp0 hd (by decide)) (ls0 := [.ref 77, .int v239, .int v242]) rfl (Nat.le_of_ble_eq_true rfl) (Nat.le_of_ble_eq_true rfl) rfl (to_rc rfl rfl rfl (g_o hG227 rfl)) rfl (to_an (pc := 0) rw_162_0 rfl (tt_gI (pc := 1) rw_162_1 (g_o hG227 rfl) (v := (M231.2.1 77 8)) rfl (to_c (pc := 4) rw_162_4 (x := (3 : Int32)) rfl rfl (b_ceq (pc := 5) rw_162_5 (A := (M231.2.1 77 8).toInt) (B := 3) rfl rfl (fun h244 => ?_) (fun h244 => ?_))))))))
                      · refine to_an (pc := 14) rw_162_14 rfl (tt_gI (pc := 15) rw_162_15 (g_o hG227 rfl) (v := (M231.2.1 77 9)) rfl (to_in (pc := 18) rw_162_18 rfl (b_clt (pc := 19) rw_162_19 (A := (M231.2.1 77 9).toInt) (B := v239.toInt) rfl rfl (fun h245 => ?_) (fun h245 => ?_))))
                        · refine to_an (pc := 30) rw_162_30 rfl (to_c (pc := 31) rw_162_31 (x := (2 : Int32)) rfl rfl (s_v (pc := 32) rw_162_32 (dp1 hd (by decide)) (ls0 := [.ref 77, .int (2 : Int32)]) rfl (Nat.le_of_ble_eq_true rfl) (Nat.le_of_ble_eq_true rfl) rfl (to_rc rfl rfl rfl (g_o hG227 rfl)) rfl (to_an (pc := 0) rw_152_0 rfl (to_in (pc := 1) rw_152_1 rfl (s_pI (pc := 2) rw_152_2 hG227 rfl (fun M247 W246 => ?_))))))
                          have hG248 := g_wf hG227 W246 rfl rfl (by decide)
                          have F249 := FR.w F232 W246 (show 77 = 77 ∧ (4 = 4 ∨ 4 = 5 ∨ 7 ≤ 4 ∧ 4 ≤ 10 ∨ 14 ≤ 4 ∧ 4 ≤ 16 ∨ 4 = 25) ∨ 80 ≤ 77 ∧ 77 ≤ 84 ∧ 8 ≤ 4 ∨ 85 ≤ 77 ∧ 77 ≤ 87 ∧ 12 ≤ 4 by decide)
                          refine to_an (pc := 5) rw_152_5 rfl (to_an (pc := 6) rw_152_6 rfl ?_)
                          have c_250 : M247.2.1 77 10 = (M231.2.1 77 10) := (W_n W246 (by decide) rfl)
                          have b_251 := g_b hG227 (a := 77) (i := 10) (lo := 0) (hi := 500) rfl rfl
                          refine tt_gI (pc := 7) rw_152_7 (g_o hG248 rfl) (v := (M231.2.1 77 10)) c_250 (s_pI (pc := 10) rw_152_10 hG248 rfl (fun M253 W252 => ?_))
                          have hG254 := g_wf hG248 W252 rfl rfl (by decide)
                          have F255 := FR.w F249 W252 (show 77 = 77 ∧ (5 = 4 ∨ 5 = 5 ∨ 7 ≤ 5 ∧ 5 ≤ 10 ∨ 14 ≤ 5 ∧ 5 ≤ 16 ∨ 5 = 25) ∨ 80 ≤ 77 ∧ 77 ≤ 84 ∧ 8 ≤ 5 ∨ 85 ≤ 77 ∧ 77 ≤ 87 ∧ 12 ≤ 5 by decide)
                          refine to_c (pc := 13) rw_152_13 (x := (0 : Int32)) rfl rfl (s_r1 (pc := 14) rw_152_14 (A := 0) rfl (by decide) (b_ieq_t (pc := 35) rw_162_35 (A := 0) rfl (by decide) (to_c (pc := 42) rw_162_42 (x := (0 : Int32)) rfl rfl (s_r1 (pc := 43) rw_162_43 (A := 0) rfl (by decide) (b_ine_f (pc := 218) rw_170_218 (A := 0) rfl (by decide) (to_c (pc := 221) rw_170_221 (x := (0 : Int32)) rfl rfl (s_r1 (pc := 222) rw_170_222 (A := 0) rfl (by decide) ?_)))))))
                          have k_256 : (0 : Int32).toInt = 0 := rfl
                          have c_257 : M253.2.1 77 7 = (M231.2.1 77 7) := (W_n W252 (by decide) (W_n W246 (by decide) rfl))
                          have t_258 : (M253.2.1 77 7).toInt = (M231.2.1 77 7).toInt := congrArg Int32.toInt c_257
                          have c_259 : M253.2.1 77 6 = (M.2.1 77 6) := (W_n W252 (by decide) (W_n W246 (by decide) c_234))
                          have t_260 : (M253.2.1 77 6).toInt = (M.2.1 77 6).toInt := congrArg Int32.toInt c_259
                          have c_261 : M253.2.1 77 8 = (M231.2.1 77 8) := (W_n W252 (by decide) (W_n W246 (by decide) rfl))
                          have t_262 : (M253.2.1 77 8).toInt = (M231.2.1 77 8).toInt := congrArg Int32.toInt c_261
                          have j_263 := (FA_f (fun a i z => W_n W252 (tg_320 a i z) rfl) (FA_f (fun a i z => W_n W246 (tg_321 a i z) rfl) (FA_f (tg_309 F226) (FA_f (tg_307 F214) (FA_f (tg_309 F165) (FA_f (tg_309 F101) (FA_f (tg_310 F85) (FA_f (tg_309 F69) q2))))))))
                          have j_264 := (WR_f (fun a i z => W_n W252 (by /-r77,5-/ omega) rfl) (WR_f (fun a i z => W_n W246 (by /-r77,4-/ omega) rfl) (WR_f (tg_311 F226) (WR_f (tg_308 F214) (WR_f (tg_311 F165) (WR_f (tg_311 F101) (WR_f (tg_312 F85) (WR_f (tg_311 F69) q3))))))))
                          have c_265 : M253.2.1 77 4 = (2 : Int32) := (W_n W252 (by decide) (W_e W246))
                          have k_266 : (2 : Int32).toInt = 2 := rfl
                          have t_267 : (M253.2.1 77 4).toInt = (2 : Int32).toInt := congrArg Int32.toInt c_265
                          have c_268 : M253.2.1 77 5 = (M231.2.1 77 10) := (W_e W252)
                          have t_269 : (M253.2.1 77 5).toInt = (M231.2.1 77 10).toInt := congrArg Int32.toInt c_268
                          exact h (0 : Int32) M253 hG254 F255 (by decide) (by decide) (by omega) (by omega) (by omega) j_263 j_264 (by omega)
                        · refine to_an (pc := 22) rw_162_22 rfl (tt_gI (pc := 23) rw_162_23 (g_o hG227 rfl) (v := (M231.2.1 77 9)) rfl (to_in (pc := 26) rw_162_26 rfl (b_cle (pc := 27) rw_162_27 (A := (M231.2.1 77 9).toInt) (B := v242.toInt) rfl rfl (fun h270 => ?_) (fun h270 => ?_))))
                          · refine to_c (pc := 38) rw_162_38 (x := (1 : Int32)) rfl rfl (to_go (pc := 39) rw_162_39 (s_r1 (pc := 43) rw_162_43 (A := 1) rfl (by decide) (b_ine_t (pc := 218) rw_170_218 (A := 1) rfl (by decide) (to_an (pc := 223) rw_170_223 rfl (tt_gI (pc := 224) rw_170_224 (g_o hG227 rfl) (v := (M231.2.1 77 9)) rfl (to_is (pc := 227) rw_170_227 (ls2 := [.ref 77, .int v94, .int (M74.2.1 77 9), .int v163, .int (1 : Int32), .int (0 : Int32), .int (M170.2.1 77 9), .int (M231.2.1 77 9), .int (10 : Int32)]) rfl rfl (to_i (pc := 229) rw_170_229 rfl (to_i (pc := 231) rw_170_231 rfl (s_sub (pc := 233) rw_170_233 (A := (M231.2.1 77 9).toInt) (B := (M170.2.1 77 9).toInt) rfl rfl (by omega) (fun v271 e272 => to_c (pc := 234) rw_170_234 (x := (23 : Int32)) rfl rfl (b_cle (pc := 236) rw_170_236 (A := v271.toInt) (B := 23) rfl rfl (fun h273 => ?_) (fun h273 => ?_))))))))))))
                            · refine to_an (pc := 245) rw_170_245 rfl (s_gJ (pc := 246) rw_170_246 hG227 rfl (fun l274 => to_i (pc := 249) rw_170_249 rfl (to_i (pc := 251) rw_170_251 rfl (s_s (pc := 253) rw_170_253 (dp0 hd (by decide)) (ls0 := [.int (M170.2.1 77 9), .int (M231.2.1 77 9), .null, .null, .null]) rfl (Nat.le_of_ble_eq_true rfl) (Nat.le_of_ble_eq_true rfl) rfl (to_rcs rfl rfl) rfl (C_168 hX (dp1 hd (by decide)) hG227 (by omega) (by omega) (by omega) (a := (M170.2.1 77 9)) (b := (M231.2.1 77 9)) (fun r275 M278 hG277 F276 => ?_))))))
                              have F279 := FR.c F232 F276 tg_316
                              refine s_anyL (pc := 256) rw_170_256 (fun _ _ => rfl) (fun l280 => s_cl (pc := 257) rw_170_257 rfl (fun l281 => s_lcmp (pc := 258) rw_170_258 (fun v282 => b_ieq (pc := 259) rw_170_259 (A := v282.toInt) rfl (fun h283 => ?_) (fun h283 => ?_))))
                              · refine to_an (pc := 268) rw_170_268 rfl (s_v (pc := 269) rw_170_269 (dp0 hd (by decide)) (ls0 := [.ref 77]) rfl (Nat.le_of_ble_eq_true rfl) (Nat.le_of_ble_eq_true rfl) rfl (to_rc rfl rfl rfl (g_o hG277 rfl)) rfl ?_)
                                have c_284 : M278.2.1 77 7 = (M231.2.1 77 7) := (F_n F276 (show ¬ (77 < 0) by decide) rfl)
                                have t_285 : (M278.2.1 77 7).toInt = (M231.2.1 77 7).toInt := congrArg Int32.toInt c_284
                                have c_286 : M278.2.1 77 6 = (M.2.1 77 6) := (F_n F276 (show ¬ (77 < 0) by decide) c_234)
                                have t_287 : (M278.2.1 77 6).toInt = (M.2.1 77 6).toInt := congrArg Int32.toInt c_286
                                refine C_156 hX (dp1 hd (by decide)) hG277 (by omega)  (fun M293 hG289 F288 p_290 p_291 p_292 => ?_)
                                have F294 := FR.c F279 F288 tg_79
                                have b_295 := g_b hG289 (a := 77) (i := 7) (lo := 0) (hi := 500) rfl rfl
                                have c_296 : M293.2.1 77 6 = (M.2.1 77 6) := (F_n F288 (show ¬ (77 = 77 ∧ 7 ≤ 6 ∧ 6 ≤ 10) by decide) c_286)
                                have t_297 : (M293.2.1 77 6).toInt = (M.2.1 77 6).toInt := congrArg Int32.toInt c_296
                                have b_298 := g_b hG289 (a := 77) (i := 8) (lo := 0) (hi := 5) rfl rfl
                                refine to_i (pc := 272) rw_170_272 rfl (to_i (pc := 274) rw_170_274 rfl (s_sub (pc := 276) rw_170_276 (A := (M231.2.1 77 9).toInt) (B := (M170.2.1 77 9).toInt) rfl rfl (by omega) (fun v299 e300 => to_c (pc := 277) rw_170_277 (x := (1 : Int32)) rfl rfl (s_add (pc := 278) rw_170_278 (A := v299.toInt) (B := 1) rfl rfl (by omega) (fun v301 e302 => to_is (pc := 279) rw_170_279 (ls2 := [.ref 77, .int v94, .int (M74.2.1 77 9), .int v163, .int (1 : Int32), .int (0 : Int32), .int (M170.2.1 77 9), .int (M231.2.1 77 9), .int v301]) rfl rfl (to_in (pc := 281) rw_170_281 rfl (to_c (pc := 282) rw_170_282 (x := (3 : Int32)) rfl rfl (b_cne_t (pc := 283) rw_170_283 (A := v163.toInt) (B := 3) rfl rfl (by omega) ?_))))))))
                                have c_303 : M293.2.1 77 15 = (M.2.1 77 15) := (F_n F288 (show ¬ (77 = 77 ∧ 7 ≤ 15 ∧ 15 ≤ 10) by decide) (F_n F276 (show ¬ (77 < 0) by decide) (F_n F226 (show ¬ (77 = 77 ∧ 7 ≤ 15 ∧ 15 ≤ 10) by decide) (F_n F214 (show ¬ (77 < 0) by decide) (F_n F165 (show ¬ (77 = 77 ∧ 7 ≤ 15 ∧ 15 ≤ 10) by decide) (F_n F101 (show ¬ (77 = 77 ∧ 7 ≤ 15 ∧ 15 ≤ 10) by decide) c_93))))))
                                have t_304 : (M293.2.1 77 15).toInt = (M.2.1 77 15).toInt := congrArg Int32.toInt c_303
                                have j_305 := (FA_f (tg_309 F288) (FA_f (tg_307 F276) (FA_f (tg_309 F226) (FA_f (tg_307 F214) (FA_f (tg_309 F165) (FA_f (tg_309 F101) (FA_f (tg_310 F85) (FA_f (tg_309 F69) q2))))))))
                                have j_306 := (WR_f (tg_311 F288) (WR_f (tg_308 F276) (WR_f (tg_311 F226) (WR_f (tg_308 F214) (WR_f (tg_311 F165) (WR_f (tg_311 F101) (WR_f (tg_312 F85) (WR_f (tg_311 F69) q3))))))))
                                have c_307 : M293.2.1 77 4 = (M90.2.1 77 4) := (F_n F288 (show ¬ (77 = 77 ∧ 7 ≤ 4 ∧ 4 ≤ 10) by decide) (F_n F276 (show ¬ (77 < 0) by decide) (F_n F226 (show ¬ (77 = 77 ∧ 7 ≤ 4 ∧ 4 ≤ 10) by decide) (F_n F214 (show ¬ (77 < 0) by decide) (F_n F165 (show ¬ (77 = 77 ∧ 7 ≤ 4 ∧ 4 ≤ 10) by decide) (F_n F101 (show ¬ (77 = 77 ∧ 7 ≤ 4 ∧ 4 ≤ 10) by decide) rfl))))))
                                have t_308 : (M293.2.1 77 4).toInt = (M90.2.1 77 4).toInt := congrArg Int32.toInt c_307
                                have c_309 : M293.2.1 77 5 = (M90.2.1 77 5) := (F_n F288 (show ¬ (77 = 77 ∧ 7 ≤ 5 ∧ 5 ≤ 10) by decide) (F_n F276 (show ¬ (77 < 0) by decide) (F_n F226 (show ¬ (77 = 77 ∧ 7 ≤ 5 ∧ 5 ≤ 10) by decide) (F_n F214 (show ¬ (77 < 0) by decide) (F_n F165 (show ¬ (77 = 77 ∧ 7 ≤ 5 ∧ 5 ≤ 10) by decide) (F_n F101 (show ¬ (77 = 77 ∧ 7 ≤ 5 ∧ 5 ≤ 10) by decide) rfl))))))
                                have t_310 : (M293.2.1 77 5).toInt = (M90.2.1 77 5).toInt := congrArg Int32.toInt c_309
                                exact (T_170_0 hX hd q1 q2 q3 h (((0 : Int)).toNat + 1)) M293 v94 (M74.2.1 77 9) v163 (.int (1 : Int32)) (.int (0 : Int32)) (M170.2.1 77 9) (M231.2.1 77 9) v301 hG289 F294 (by omega) (by omega) (by omega) (by omega) (by omega) (by omega) (by omega) (by omega) (by omega) (by omega) (by omega) (by omega) (by omega) (by omega) (by omega) j_305 j_306 (by omega) (by omega)
                              · refine to_an (pc := 262) rw_170_262 rfl (to_c (pc := 263) rw_170_263 (x := (3 : Int32)) rfl rfl (s_v (pc := 264) rw_170_264 (dp0 hd (by decide)) (ls0 := [.ref 77, .int (3 : Int32)]) rfl (Nat.le_of_ble_eq_true rfl) (Nat.le_of_ble_eq_true rfl) rfl (to_rc rfl rfl rfl (g_o hG277 rfl)) rfl (to_an (pc := 0) rw_152_0 rfl (to_in (pc := 1) rw_152_1 rfl (s_pI (pc := 2) rw_152_2 hG277 rfl (fun M312 W311 => ?_))))))
                                have hG313 := g_wf hG277 W311 rfl rfl (by decide)
                                have F314 := FR.w F279 W311 (show 77 = 77 ∧ (4 = 4 ∨ 4 = 5 ∨ 7 ≤ 4 ∧ 4 ≤ 10 ∨ 14 ≤ 4 ∧ 4 ≤ 16 ∨ 4 = 25) ∨ 80 ≤ 77 ∧ 77 ≤ 84 ∧ 8 ≤ 4 ∨ 85 ≤ 77 ∧ 77 ≤ 87 ∧ 12 ≤ 4 by decide)
                                refine to_an (pc := 5) rw_152_5 rfl (to_an (pc := 6) rw_152_6 rfl ?_)
                                have c_315 : M312.2.1 77 10 = (M231.2.1 77 10) := (W_n W311 (by decide) (F_n F276 (show ¬ (77 < 0) by decide) rfl))
                                have b_316 := g_b hG227 (a := 77) (i := 10) (lo := 0) (hi := 500) rfl rfl
                                refine tt_gI (pc := 7) rw_152_7 (g_o hG313 rfl) (v := (M231.2.1 77 10)) c_315 (s_pI (pc := 10) rw_152_10 hG313 rfl (fun M318 W317 => ?_))
                                have hG319 := g_wf hG313 W317 rfl rfl (by decide)
                                have F320 := FR.w F314 W317 (show 77 = 77 ∧ (5 = 4 ∨ 5 = 5 ∨ 7 ≤ 5 ∧ 5 ≤ 10 ∨ 14 ≤ 5 ∧ 5 ≤ 16 ∨ 5 = 25) ∨ 80 ≤ 77 ∧ 77 ≤ 84 ∧ 8 ≤ 5 ∨ 85 ≤ 77 ∧ 77 ≤ 87 ∧ 12 ≤ 5 by decide)
                                refine to_c (pc := 13) rw_152_13 (x := (0 : Int32)) rfl rfl (s_r1 (pc := 14) rw_152_14 (A := 0) rfl (by decide) (s_r1 (pc := 267) rw_170_267 (A := 0) rfl (by decide) ?_))
                                have k_321 : (0 : Int32).toInt = 0 := rfl
                                have c_322 : M318.2.1 77 7 = (M231.2.1 77 7) := (W_n W317 (by decide) (W_n W311 (by decide) (F_n F276 (show ¬ (77 < 0) by decide) rfl)))
                                have t_323 : (M318.2.1 77 7).toInt = (M231.2.1 77 7).toInt := congrArg Int32.toInt c_322
                                have c_324 : M318.2.1 77 6 = (M.2.1 77 6) := (W_n W317 (by decide) (W_n W311 (by decide) (F_n F276 (show ¬ (77 < 0) by decide) c_234)))
                                have t_325 : (M318.2.1 77 6).toInt = (M.2.1 77 6).toInt := congrArg Int32.toInt c_324
                                have c_326 : M318.2.1 77 8 = (M231.2.1 77 8) := (W_n W317 (by decide) (W_n W311 (by decide) (F_n F276 (show ¬ (77 < 0) by decide) rfl)))
                                have t_327 : (M318.2.1 77 8).toInt = (M231.2.1 77 8).toInt := congrArg Int32.toInt c_326
                                have j_328 := (FA_f (fun a i z => W_n W317 (tg_320 a i z) rfl) (FA_f (fun a i z => W_n W311 (tg_321 a i z) rfl) (FA_f (tg_307 F276) (FA_f (tg_309 F226) (FA_f (tg_307 F214) (FA_f (tg_309 F165) (FA_f (tg_309 F101) (FA_f (tg_310 F85) (FA_f (tg_309 F69) q2)))))))))
                                have j_329 := (WR_f (fun a i z => W_n W317 (by /-r77,5-/ omega) rfl) (WR_f (fun a i z => W_n W311 (by /-r77,4-/ omega) rfl) (WR_f (tg_308 F276) (WR_f (tg_311 F226) (WR_f (tg_308 F214) (WR_f (tg_311 F165) (WR_f (tg_311 F101) (WR_f (tg_312 F85) (WR_f (tg_311 F69) q3)))))))))
                                have c_330 : M318.2.1 77 4 = (3 : Int32) := (W_n W317 (by decide) (W_e W311))
                                have k_331 : (3 : Int32).toInt = 3 := rfl
                                have t_332 : (M318.2.1 77 4).toInt = (3 : Int32).toInt := congrArg Int32.toInt c_330
                                have c_333 : M318.2.1 77 5 = (M231.2.1 77 10) := (W_e W317)
                                have t_334 : (M318.2.1 77 5).toInt = (M231.2.1 77 10).toInt := congrArg Int32.toInt c_333
                                exact h (0 : Int32) M318 hG319 F320 (by decide) (by decide) (by omega) (by omega) (by omega) j_328 j_329 (by omega)
                            · refine to_an (pc := 239) rw_170_239 rfl (to_c (pc := 240) rw_170_240 (x := (2 : Int32)) rfl rfl (s_v (pc := 241) rw_170_241 (dp0 hd (by decide)) (ls0 := [.ref 77, .int (2 : Int32)]) rfl (Nat.le_of_ble_eq_true rfl) (Nat.le_of_ble_eq_true rfl) rfl (to_rc rfl rfl rfl (g_o hG227 rfl)) rfl (to_an (pc := 0) rw_152_0 rfl (to_in (pc := 1) rw_152_1 rfl (s_pI (pc := 2) rw_152_2 hG227 rfl (fun M336 W335 => ?_))))))
                              have hG337 := g_wf hG227 W335 rfl rfl (by decide)
                              have F338 := FR.w F232 W335 (show 77 = 77 ∧ (4 = 4 ∨ 4 = 5 ∨ 7 ≤ 4 ∧ 4 ≤ 10 ∨ 14 ≤ 4 ∧ 4 ≤ 16 ∨ 4 = 25) ∨ 80 ≤ 77 ∧ 77 ≤ 84 ∧ 8 ≤ 4 ∨ 85 ≤ 77 ∧ 77 ≤ 87 ∧ 12 ≤ 4 by decide)
                              refine to_an (pc := 5) rw_152_5 rfl (to_an (pc := 6) rw_152_6 rfl ?_)
                              have c_339 : M336.2.1 77 10 = (M231.2.1 77 10) := (W_n W335 (by decide) rfl)
                              have b_340 := g_b hG227 (a := 77) (i := 10) (lo := 0) (hi := 500) rfl rfl
                              refine tt_gI (pc := 7) rw_152_7 (g_o hG337 rfl) (v := (M231.2.1 77 10)) c_339 (s_pI (pc := 10) rw_152_10 hG337 rfl (fun M342 W341 => ?_))
                              have hG343 := g_wf hG337 W341 rfl rfl (by decide)
                              have F344 := FR.w F338 W341 (show 77 = 77 ∧ (5 = 4 ∨ 5 = 5 ∨ 7 ≤ 5 ∧ 5 ≤ 10 ∨ 14 ≤ 5 ∧ 5 ≤ 16 ∨ 5 = 25) ∨ 80 ≤ 77 ∧ 77 ≤ 84 ∧ 8 ≤ 5 ∨ 85 ≤ 77 ∧ 77 ≤ 87 ∧ 12 ≤ 5 by decide)
                              refine to_c (pc := 13) rw_152_13 (x := (0 : Int32)) rfl rfl (s_r1 (pc := 14) rw_152_14 (A := 0) rfl (by decide) (s_r1 (pc := 244) rw_170_244 (A := 0) rfl (by decide) ?_))
                              have k_345 : (0 : Int32).toInt = 0 := rfl
                              have c_346 : M342.2.1 77 7 = (M231.2.1 77 7) := (W_n W341 (by decide) (W_n W335 (by decide) rfl))
                              have t_347 : (M342.2.1 77 7).toInt = (M231.2.1 77 7).toInt := congrArg Int32.toInt c_346
                              have c_348 : M342.2.1 77 6 = (M.2.1 77 6) := (W_n W341 (by decide) (W_n W335 (by decide) c_234))
                              have t_349 : (M342.2.1 77 6).toInt = (M.2.1 77 6).toInt := congrArg Int32.toInt c_348
                              have c_350 : M342.2.1 77 8 = (M231.2.1 77 8) := (W_n W341 (by decide) (W_n W335 (by decide) rfl))
                              have t_351 : (M342.2.1 77 8).toInt = (M231.2.1 77 8).toInt := congrArg Int32.toInt c_350
                              have j_352 := (FA_f (fun a i z => W_n W341 (tg_320 a i z) rfl) (FA_f (fun a i z => W_n W335 (tg_321 a i z) rfl) (FA_f (tg_309 F226) (FA_f (tg_307 F214) (FA_f (tg_309 F165) (FA_f (tg_309 F101) (FA_f (tg_310 F85) (FA_f (tg_309 F69) q2))))))))
                              have j_353 := (WR_f (fun a i z => W_n W341 (by /-r77,5-/ omega) rfl) (WR_f (fun a i z => W_n W335 (by /-r77,4-/ omega) rfl) (WR_f (tg_311 F226) (WR_f (tg_308 F214) (WR_f (tg_311 F165) (WR_f (tg_311 F101) (WR_f (tg_312 F85) (WR_f (tg_311 F69) q3))))))))
                              have c_354 : M342.2.1 77 4 = (2 : Int32) := (W_n W341 (by decide) (W_e W335))
                              have k_355 : (2 : Int32).toInt = 2 := rfl
                              have t_356 : (M342.2.1 77 4).toInt = (2 : Int32).toInt := congrArg Int32.toInt c_354
                              have c_357 : M342.2.1 77 5 = (M231.2.1 77 10) := (W_e W341)
                              have t_358 : (M342.2.1 77 5).toInt = (M231.2.1 77 10).toInt := congrArg Int32.toInt c_357
                              exact h (0 : Int32) M342 hG343 F344 (by decide) (by decide) (by omega) (by omega) (by omega) j_352 j_353 (by omega)
                          · refine to_an (pc := 30) rw_162_30 rfl (to_c (pc := 31) rw_162_31 (x := (2 : Int32)) rfl rfl (s_v (pc := 32) rw_162_32 (dp1 hd (by decide)) (ls0 := [.ref 77, .int (2 : Int32)]) rfl (Nat.le_of_ble_eq_true rfl) (Nat.le_of_ble_eq_true rfl) rfl (to_rc rfl rfl rfl (g_o hG227 rfl)) rfl (to_an (pc := 0) rw_152_0 rfl (to_in (pc := 1) rw_152_1 rfl (s_pI (pc := 2) rw_152_2 hG227 rfl (fun M360 W359 => ?_))))))
                            have hG361 := g_wf hG227 W359 rfl rfl (by decide)
                            have F362 := FR.w F232 W359 (show 77 = 77 ∧ (4 = 4 ∨ 4 = 5 ∨ 7 ≤ 4 ∧ 4 ≤ 10 ∨ 14 ≤ 4 ∧ 4 ≤ 16 ∨ 4 = 25) ∨ 80 ≤ 77 ∧ 77 ≤ 84 ∧ 8 ≤ 4 ∨ 85 ≤ 77 ∧ 77 ≤ 87 ∧ 12 ≤ 4 by decide)
                            refine to_an (pc := 5) rw_152_5 rfl (to_an (pc := 6) rw_152_6 rfl ?_)
                            have c_363 : M360.2.1 77 10 = (M231.2.1 77 10) := (W_n W359 (by decide) rfl)
                            have b_364 := g_b hG227 (a := 77) (i := 10) (lo := 0) (hi := 500) rfl rfl
                            refine tt_gI (pc := 7) rw_152_7 (g_o hG361 rfl) (v := (M231.2.1 77 10)) c_363 (s_pI (pc := 10) rw_152_10 hG361 rfl (fun M366 W365 => ?_))
                            have hG367 := g_wf hG361 W365 rfl rfl (by decide)
                            have F368 := FR.w F362 W365 (show 77 = 77 ∧ (5 = 4 ∨ 5 = 5 ∨ 7 ≤ 5 ∧ 5 ≤ 10 ∨ 14 ≤ 5 ∧ 5 ≤ 16 ∨ 5 = 25) ∨ 80 ≤ 77 ∧ 77 ≤ 84 ∧ 8 ≤ 5 ∨ 85 ≤ 77 ∧ 77 ≤ 87 ∧ 12 ≤ 5 by decide)
                            refine to_c (pc := 13) rw_152_13 (x := (0 : Int32)) rfl rfl (s_r1 (pc := 14) rw_152_14 (A := 0) rfl (by decide) (b_ieq_t (pc := 35) rw_162_35 (A := 0) rfl (by decide) (to_c (pc := 42) rw_162_42 (x := (0 : Int32)) rfl rfl (s_r1 (pc := 43) rw_162_43 (A := 0) rfl (by decide) (b_ine_f (pc := 218) rw_170_218 (A := 0) rfl (by decide) (to_c (pc := 221) rw_170_221 (x := (0 : Int32)) rfl rfl (s_r1 (pc := 222) rw_170_222 (A := 0) rfl (by decide) ?_)))))))
                            have k_369 : (0 : Int32).toInt = 0 := rfl
                            have c_370 : M366.2.1 77 7 = (M231.2.1 77 7) := (W_n W365 (by decide) (W_n W359 (by decide) rfl))
                            have t_371 : (M366.2.1 77 7).toInt = (M231.2.1 77 7).toInt := congrArg Int32.toInt c_370
                            have c_372 : M366.2.1 77 6 = (M.2.1 77 6) := (W_n W365 (by decide) (W_n W359 (by decide) c_234))
                            have t_373 : (M366.2.1 77 6).toInt = (M.2.1 77 6).toInt := congrArg Int32.toInt c_372
                            have c_374 : M366.2.1 77 8 = (M231.2.1 77 8) := (W_n W365 (by decide) (W_n W359 (by decide) rfl))
                            have t_375 : (M366.2.1 77 8).toInt = (M231.2.1 77 8).toInt := congrArg Int32.toInt c_374
                            have j_376 := (FA_f (fun a i z => W_n W365 (tg_320 a i z) rfl) (FA_f (fun a i z => W_n W359 (tg_321 a i z) rfl) (FA_f (tg_309 F226) (FA_f (tg_307 F214) (FA_f (tg_309 F165) (FA_f (tg_309 F101) (FA_f (tg_310 F85) (FA_f (tg_309 F69) q2))))))))
                            have j_377 := (WR_f (fun a i z => W_n W365 (by /-r77,5-/ omega) rfl) (WR_f (fun a i z => W_n W359 (by /-r77,4-/ omega) rfl) (WR_f (tg_311 F226) (WR_f (tg_308 F214) (WR_f (tg_311 F165) (WR_f (tg_311 F101) (WR_f (tg_312 F85) (WR_f (tg_311 F69) q3))))))))
                            have c_378 : M366.2.1 77 4 = (2 : Int32) := (W_n W365 (by decide) (W_e W359))
                            have k_379 : (2 : Int32).toInt = 2 := rfl
                            have t_380 : (M366.2.1 77 4).toInt = (2 : Int32).toInt := congrArg Int32.toInt c_378
                            have c_381 : M366.2.1 77 5 = (M231.2.1 77 10) := (W_e W365)
                            have t_382 : (M366.2.1 77 5).toInt = (M231.2.1 77 10).toInt := congrArg Int32.toInt c_381
                            exact h (0 : Int32) M366 hG367 F368 (by decide) (by decide) (by omega) (by omega) (by omega) j_376 j_377 (by omega)
                      · refine to_an (pc := 8) rw_162_8 rfl (to_c (pc := 9) rw_162_9 (x := (1 : Int32)) rfl rfl (s_v (pc := 10) rw_162_10 (dp1 hd (by decide)) (ls0 := [.ref 77, .int (1 : Int32)]) rfl (Nat.le_of_ble_eq_true rfl) (Nat.le_of_ble_eq_true rfl) rfl (to_rc rfl rfl rfl (g_o hG227 rfl)) rfl (to_an (pc := 0) rw_152_0 rfl (to_in (pc := 1) rw_152_1 rfl (s_pI (pc := 2) rw_152_2 hG227 rfl (fun M384 W383 => ?_))))))
                        have hG385 := g_wf hG227 W383 rfl rfl (by decide)
                        have F386 := FR.w F232 W383 (show 77 = 77 ∧ (4 = 4 ∨ 4 = 5 ∨ 7 ≤ 4 ∧ 4 ≤ 10 ∨ 14 ≤ 4 ∧ 4 ≤ 16 ∨ 4 = 25) ∨ 80 ≤ 77 ∧ 77 ≤ 84 ∧ 8 ≤ 4 ∨ 85 ≤ 77 ∧ 77 ≤ 87 ∧ 12 ≤ 4 by decide)
                        refine to_an (pc := 5) rw_152_5 rfl (to_an (pc := 6) rw_152_6 rfl ?_)
                        have c_387 : M384.2.1 77 10 = (M231.2.1 77 10) := (W_n W383 (by decide) rfl)
                        have b_388 := g_b hG227 (a := 77) (i := 10) (lo := 0) (hi := 500) rfl rfl
                        refine tt_gI (pc := 7) rw_152_7 (g_o hG385 rfl) (v := (M231.2.1 77 10)) c_387 (s_pI (pc := 10) rw_152_10 hG385 rfl (fun M390 W389 => ?_))
                        have hG391 := g_wf hG385 W389 rfl rfl (by decide)
                        have F392 := FR.w F386 W389 (show 77 = 77 ∧ (5 = 4 ∨ 5 = 5 ∨ 7 ≤ 5 ∧ 5 ≤ 10 ∨ 14 ≤ 5 ∧ 5 ≤ 16 ∨ 5 = 25) ∨ 80 ≤ 77 ∧ 77 ≤ 84 ∧ 8 ≤ 5 ∨ 85 ≤ 77 ∧ 77 ≤ 87 ∧ 12 ≤ 5 by decide)
                        refine to_c (pc := 13) rw_152_13 (x := (0 : Int32)) rfl rfl (s_r1 (pc := 14) rw_152_14 (A := 0) rfl (by decide) (s_r1 (pc := 13) rw_162_13 (A := 0) rfl (by decide) (b_ine_f (pc := 218) rw_170_218 (A := 0) rfl (by decide) (to_c (pc := 221) rw_170_221 (x := (0 : Int32)) rfl rfl (s_r1 (pc := 222) rw_170_222 (A := 0) rfl (by decide) ?_)))))
                        have k_393 : (0 : Int32).toInt = 0 := rfl
                        have c_394 : M390.2.1 77 7 = (M231.2.1 77 7) := (W_n W389 (by decide) (W_n W383 (by decide) rfl))
                        have t_395 : (M390.2.1 77 7).toInt = (M231.2.1 77 7).toInt := congrArg Int32.toInt c_394
                        have c_396 : M390.2.1 77 6 = (M.2.1 77 6) := (W_n W389 (by decide) (W_n W383 (by decide) c_234))
                        have t_397 : (M390.2.1 77 6).toInt = (M.2.1 77 6).toInt := congrArg Int32.toInt c_396
                        have c_398 : M390.2.1 77 8 = (M231.2.1 77 8) := (W_n W389 (by decide) (W_n W383 (by decide) rfl))
                        have t_399 : (M390.2.1 77 8).toInt = (M231.2.1 77 8).toInt := congrArg Int32.toInt c_398
                        have j_400 := (FA_f (fun a i z => W_n W389 (tg_320 a i z) rfl) (FA_f (fun a i z => W_n W383 (tg_321 a i z) rfl) (FA_f (tg_309 F226) (FA_f (tg_307 F214) (FA_f (tg_309 F165) (FA_f (tg_309 F101) (FA_f (tg_310 F85) (FA_f (tg_309 F69) q2))))))))
                        have j_401 := (WR_f (fun a i z => W_n W389 (by /-r77,5-/ omega) rfl) (WR_f (fun a i z => W_n W383 (by /-r77,4-/ omega) rfl) (WR_f (tg_311 F226) (WR_f (tg_308 F214) (WR_f (tg_311 F165) (WR_f (tg_311 F101) (WR_f (tg_312 F85) (WR_f (tg_311 F69) q3))))))))
                        have c_402 : M390.2.1 77 4 = (1 : Int32) := (W_n W389 (by decide) (W_e W383))
                        have k_403 : (1 : Int32).toInt = 1 := rfl
                        have t_404 : (M390.2.1 77 4).toInt = (1 : Int32).toInt := congrArg Int32.toInt c_402
                        have c_405 : M390.2.1 77 5 = (M231.2.1 77 10) := (W_e W389)
                        have t_406 : (M390.2.1 77 5).toInt = (M231.2.1 77 10).toInt := congrArg Int32.toInt c_405
                        exact h (0 : Int32) M390 hG391 F392 (by decide) (by decide) (by omega) (by omega) (by omega) j_400 j_401 (by omega)
                    · refine to_an (pc := 169) rw_170_169 rfl (to_c (pc := 170) rw_170_170 (x := (3 : Int32)) rfl rfl (s_v (pc := 171) rw_170_171 (dp0 hd (by decide)) (ls0 := [.ref 77, .int (3 : Int32)]) rfl (Nat.le_of_ble_eq_true rfl) (Nat.le_of_ble_eq_true rfl) rfl (to_rc rfl rfl rfl (g_o hG215 rfl)) rfl (to_an (pc := 0) rw_152_0 rfl (to_in (pc := 1) rw_152_1 rfl (s_pI (pc := 2) rw_152_2 hG215 rfl (fun M408 W407 => ?_))))))
                      have hG409 := g_wf hG215 W407 rfl rfl (by decide)
                      have F410 := FR.w F217 W407 (show 77 = 77 ∧ (4 = 4 ∨ 4 = 5 ∨ 7 ≤ 4 ∧ 4 ≤ 10 ∨ 14 ≤ 4 ∧ 4 ≤ 16 ∨ 4 = 25) ∨ 80 ≤ 77 ∧ 77 ≤ 84 ∧ 8 ≤ 4 ∨ 85 ≤ 77 ∧ 77 ≤ 87 ∧ 12 ≤ 4 by decide)
                      refine to_an (pc := 5) rw_152_5 rfl (to_an (pc := 6) rw_152_6 rfl ?_)
                      have c_411 : M408.2.1 77 10 = (M170.2.1 77 10) := (W_n W407 (by decide) (F_n F214 (show ¬ (77 < 0) by decide) rfl))
                      have b_412 := g_b hG166 (a := 77) (i := 10) (lo := 0) (hi := 500) rfl rfl
                      refine tt_gI (pc := 7) rw_152_7 (g_o hG409 rfl) (v := (M170.2.1 77 10)) c_411 (s_pI (pc := 10) rw_152_10 hG409 rfl (fun M414 W413 => ?_))
                      have hG415 := g_wf hG409 W413 rfl rfl (by decide)
                      have F416 := FR.w F410 W413 (show 77 = 77 ∧ (5 = 4 ∨ 5 = 5 ∨ 7 ≤ 5 ∧ 5 ≤ 10 ∨ 14 ≤ 5 ∧ 5 ≤ 16 ∨ 5 = 25) ∨ 80 ≤ 77 ∧ 77 ≤ 84 ∧ 8 ≤ 5 ∨ 85 ≤ 77 ∧ 77 ≤ 87 ∧ 12 ≤ 5 by decide)
                      refine to_c (pc := 13) rw_152_13 (x := (0 : Int32)) rfl rfl (s_r1 (pc := 14) rw_152_14 (A := 0) rfl (by decide) (s_r1 (pc := 174) rw_170_174 (A := 0) rfl (by decide) ?_))
                      have k_417 : (0 : Int32).toInt = 0 := rfl
                      have c_418 : M414.2.1 77 7 = (M170.2.1 77 7) := (W_n W413 (by decide) (W_n W407 (by decide) (F_n F214 (show ¬ (77 < 0) by decide) rfl)))
                      have t_419 : (M414.2.1 77 7).toInt = (M170.2.1 77 7).toInt := congrArg Int32.toInt c_418
                      have c_420 : M414.2.1 77 6 = (M.2.1 77 6) := (W_n W413 (by decide) (W_n W407 (by decide) (F_n F214 (show ¬ (77 < 0) by decide) c_173)))
                      have t_421 : (M414.2.1 77 6).toInt = (M.2.1 77 6).toInt := congrArg Int32.toInt c_420
                      have c_422 : M414.2.1 77 8 = (M170.2.1 77 8) := (W_n W413 (by decide) (W_n W407 (by decide) (F_n F214 (show ¬ (77 < 0) by decide) rfl)))
                      have t_423 : (M414.2.1 77 8).toInt = (M170.2.1 77 8).toInt := congrArg Int32.toInt c_422
                      have j_424 := (FA_f (fun a i z => W_n W413 (tg_320 a i z) rfl) (FA_f (fun a i z => W_n W407 (tg_321 a i z) rfl) (FA_f (tg_307 F214) (FA_f (tg_309 F165) (FA_f (tg_309 F101) (FA_f (tg_310 F85) (FA_f (tg_309 F69) q2)))))))
                      have j_425 := (WR_f (fun a i z => W_n W413 (by /-r77,5-/ omega) rfl) (WR_f (fun a i z => W_n W407 (by /-r77,4-/ omega) rfl) (WR_f (tg_308 F214) (WR_f (tg_311 F165) (WR_f (tg_311 F101) (WR_f (tg_312 F85) (WR_f (tg_311 F69) q3)))))))
                      have c_426 : M414.2.1 77 4 = (3 : Int32) := (W_n W413 (by decide) (W_e W407))
                      have k_427 : (3 : Int32).toInt = 3 := rfl
                      have t_428 : (M414.2.1 77 4).toInt = (3 : Int32).toInt := congrArg Int32.toInt c_426
                      have c_429 : M414.2.1 77 5 = (M170.2.1 77 10) := (W_e W413)
                      have t_430 : (M414.2.1 77 5).toInt = (M170.2.1 77 10).toInt := congrArg Int32.toInt c_429
                      exact h (0 : Int32) M414 hG415 F416 (by decide) (by decide) (by omega) (by omega) (by omega) j_424 j_425 (by omega)
                  · refine to_an (pc := 30) rw_162_30 rfl (to_c (pc := 31) rw_162_31 (x := (2 : Int32)) rfl rfl (s_v (pc := 32) rw_162_32 (dp1 hd (by decide)) (ls0 := [.ref 77, .int (2 : Int32)]) rfl (Nat.le_of_ble_eq_true rfl) (Nat.le_of_ble_eq_true rfl) rfl (to_rc rfl rfl rfl (g_o hG166 rfl)) rfl (to_an (pc := 0) rw_152_0 rfl (to_in (pc := 1) rw_152_1 rfl (s_pI (pc := 2) rw_152_2 hG166 rfl (fun M432 W431 => ?_))))))
                    have hG433 := g_wf hG166 W431 rfl rfl (by decide)
                    have F434 := FR.w F171 W431 (show 77 = 77 ∧ (4 = 4 ∨ 4 = 5 ∨ 7 ≤ 4 ∧ 4 ≤ 10 ∨ 14 ≤ 4 ∧ 4 ≤ 16 ∨ 4 = 25) ∨ 80 ≤ 77 ∧ 77 ≤ 84 ∧ 8 ≤ 4 ∨ 85 ≤ 77 ∧ 77 ≤ 87 ∧ 12 ≤ 4 by decide)
                    refine to_an (pc := 5) rw_152_5 rfl (to_an (pc := 6) rw_152_6 rfl ?_)
                    have c_435 : M432.2.1 77 10 = (M170.2.1 77 10) := (W_n W431 (by decide) rfl)
                    have b_436 := g_b hG166 (a := 77) (i := 10) (lo := 0) (hi := 500) rfl rfl
                    refine tt_gI (pc := 7) rw_152_7 (g_o hG433 rfl) (v := (M170.2.1 77 10)) c_435 (s_pI (pc := 10) rw_152_10 hG433 rfl (fun M438 W437 => ?_))
                    have hG439 := g_wf hG433 W437 rfl rfl (by decide)
                    have F440 := FR.w F434 W437 (show 77 = 77 ∧ (5 = 4 ∨ 5 = 5 ∨ 7 ≤ 5 ∧ 5 ≤ 10 ∨ 14 ≤ 5 ∧ 5 ≤ 16 ∨ 5 = 25) ∨ 80 ≤ 77 ∧ 77 ≤ 84 ∧ 8 ≤ 5 ∨ 85 ≤ 77 ∧ 77 ≤ 87 ∧ 12 ≤ 5 by decide)
                    refine to_c (pc := 13) rw_152_13 (x := (0 : Int32)) rfl rfl (s_r1 (pc := 14) rw_152_14 (A := 0) rfl (by decide) (b_ieq_t (pc := 35) rw_162_35 (A := 0) rfl (by decide) (to_c (pc := 42) rw_162_42 (x := (0 : Int32)) rfl rfl (s_r1 (pc := 43) rw_162_43 (A := 0) rfl (by decide) (b_ine_f (pc := 138) rw_170_138 (A := 0) rfl (by decide) (to_c (pc := 141) rw_170_141 (x := (0 : Int32)) rfl rfl (s_r1 (pc := 142) rw_170_142 (A := 0) rfl (by decide) ?_)))))))
                    have k_441 : (0 : Int32).toInt = 0 := rfl
                    have c_442 : M438.2.1 77 7 = (M170.2.1 77 7) := (W_n W437 (by decide) (W_n W431 (by decide) rfl))
                    have t_443 : (M438.2.1 77 7).toInt = (M170.2.1 77 7).toInt := congrArg Int32.toInt c_442
                    have c_444 : M438.2.1 77 6 = (M.2.1 77 6) := (W_n W437 (by decide) (W_n W431 (by decide) c_173))
                    have t_445 : (M438.2.1 77 6).toInt = (M.2.1 77 6).toInt := congrArg Int32.toInt c_444
                    have c_446 : M438.2.1 77 8 = (M170.2.1 77 8) := (W_n W437 (by decide) (W_n W431 (by decide) rfl))
                    have t_447 : (M438.2.1 77 8).toInt = (M170.2.1 77 8).toInt := congrArg Int32.toInt c_446
                    have j_448 := (FA_f (fun a i z => W_n W437 (tg_320 a i z) rfl) (FA_f (fun a i z => W_n W431 (tg_321 a i z) rfl) (FA_f (tg_309 F165) (FA_f (tg_309 F101) (FA_f (tg_310 F85) (FA_f (tg_309 F69) q2))))))
                    have j_449 := (WR_f (fun a i z => W_n W437 (by /-r77,5-/ omega) rfl) (WR_f (fun a i z => W_n W431 (by /-r77,4-/ omega) rfl) (WR_f (tg_311 F165) (WR_f (tg_311 F101) (WR_f (tg_312 F85) (WR_f (tg_311 F69) q3))))))
                    have c_450 : M438.2.1 77 4 = (2 : Int32) := (W_n W437 (by decide) (W_e W431))
                    have k_451 : (2 : Int32).toInt = 2 := rfl
                    have t_452 : (M438.2.1 77 4).toInt = (2 : Int32).toInt := congrArg Int32.toInt c_450
                    have c_453 : M438.2.1 77 5 = (M170.2.1 77 10) := (W_e W437)
                    have t_454 : (M438.2.1 77 5).toInt = (M170.2.1 77 10).toInt := congrArg Int32.toInt c_453
                    exact h (0 : Int32) M438 hG439 F440 (by decide) (by decide) (by omega) (by omega) (by omega) j_448 j_449 (by omega)
              · refine to_an (pc := 8) rw_162_8 rfl (to_c (pc := 9) rw_162_9 (x := (1 : Int32)) rfl rfl (s_v (pc := 10) rw_162_10 (dp1 hd (by decide)) (ls0 := [.ref 77, .int (1 : Int32)]) rfl (Nat.le_of_ble_eq_true rfl) (Nat.le_of_ble_eq_true rfl) rfl (to_rc rfl rfl rfl (g_o hG166 rfl)) rfl (to_an (pc := 0) rw_152_0 rfl (to_in (pc := 1) rw_152_1 rfl (s_pI (pc := 2) rw_152_2 hG166 rfl (fun M456 W455 => ?_))))))
                have hG457 := g_wf hG166 W455 rfl rfl (by decide)
                have F458 := FR.w F171 W455 (show 77 = 77 ∧ (4 = 4 ∨ 4 = 5 ∨ 7 ≤ 4 ∧ 4 ≤ 10 ∨ 14 ≤ 4 ∧ 4 ≤ 16 ∨ 4 = 25) ∨ 80 ≤ 77 ∧ 77 ≤ 84 ∧ 8 ≤ 4 ∨ 85 ≤ 77 ∧ 77 ≤ 87 ∧ 12 ≤ 4 by decide)
                refine to_an (pc := 5) rw_152_5 rfl (to_an (pc := 6) rw_152_6 rfl ?_)
                have c_459 : M456.2.1 77 10 = (M170.2.1 77 10) := (W_n W455 (by decide) rfl)
                have b_460 := g_b hG166 (a := 77) (i := 10) (lo := 0) (hi := 500) rfl rfl
                refine tt_gI (pc := 7) rw_152_7 (g_o hG457 rfl) (v := (M170.2.1 77 10)) c_459 (s_pI (pc := 10) rw_152_10 hG457 rfl (fun M462 W461 => ?_))
                have hG463 := g_wf hG457 W461 rfl rfl (by decide)
                have F464 := FR.w F458 W461 (show 77 = 77 ∧ (5 = 4 ∨ 5 = 5 ∨ 7 ≤ 5 ∧ 5 ≤ 10 ∨ 14 ≤ 5 ∧ 5 ≤ 16 ∨ 5 = 25) ∨ 80 ≤ 77 ∧ 77 ≤ 84 ∧ 8 ≤ 5 ∨ 85 ≤ 77 ∧ 77 ≤ 87 ∧ 12 ≤ 5 by decide)
                refine to_c (pc := 13) rw_152_13 (x := (0 : Int32)) rfl rfl (s_r1 (pc := 14) rw_152_14 (A := 0) rfl (by decide) (s_r1 (pc := 13) rw_162_13 (A := 0) rfl (by decide) (b_ine_f (pc := 138) rw_170_138 (A := 0) rfl (by decide) (to_c (pc := 141) rw_170_141 (x := (0 : Int32)) rfl rfl (s_r1 (pc := 142) rw_170_142 (A := 0) rfl (by decide) ?_)))))
                have k_465 : (0 : Int32).toInt = 0 := rfl
                have c_466 : M462.2.1 77 7 = (M170.2.1 77 7) := (W_n W461 (by decide) (W_n W455 (by decide) rfl))
                have t_467 : (M462.2.1 77 7).toInt = (M170.2.1 77 7).toInt := congrArg Int32.toInt c_466
                have c_468 : M462.2.1 77 6 = (M.2.1 77 6) := (W_n W461 (by decide) (W_n W455 (by decide) c_173))
                have t_469 : (M462.2.1 77 6).toInt = (M.2.1 77 6).toInt := congrArg Int32.toInt c_468
                have c_470 : M462.2.1 77 8 = (M170.2.1 77 8) := (W_n W461 (by decide) (W_n W455 (by decide) rfl))
                have t_471 : (M462.2.1 77 8).toInt = (M170.2.1 77 8).toInt := congrArg Int32.toInt c_470
                have j_472 := (FA_f (fun a i z => W_n W461 (tg_320 a i z) rfl) (FA_f (fun a i z => W_n W455 (tg_321 a i z) rfl) (FA_f (tg_309 F165) (FA_f (tg_309 F101) (FA_f (tg_310 F85) (FA_f (tg_309 F69) q2))))))
                have j_473 := (WR_f (fun a i z => W_n W461 (by /-r77,5-/ omega) rfl) (WR_f (fun a i z => W_n W455 (by /-r77,4-/ omega) rfl) (WR_f (tg_311 F165) (WR_f (tg_311 F101) (WR_f (tg_312 F85) (WR_f (tg_311 F69) q3))))))
                have c_474 : M462.2.1 77 4 = (1 : Int32) := (W_n W461 (by decide) (W_e W455))
                have k_475 : (1 : Int32).toInt = 1 := rfl
                have t_476 : (M462.2.1 77 4).toInt = (1 : Int32).toInt := congrArg Int32.toInt c_474
                have c_477 : M462.2.1 77 5 = (M170.2.1 77 10) := (W_e W461)
                have t_478 : (M462.2.1 77 5).toInt = (M170.2.1 77 10).toInt := congrArg Int32.toInt c_477
                exact h (0 : Int32) M462 hG463 F464 (by decide) (by decide) (by omega) (by omega) (by omega) j_472 j_473 (by omega)
            · refine to_in (pc := 91) rw_170_91 rfl (to_c (pc := 92) rw_170_92 (x := (3 : Int32)) rfl rfl (b_cne (pc := 93) rw_170_93 (A := v163.toInt) (B := 3) rfl rfl (fun h479 => ?_) (fun h479 => ?_)))
              · refine to_c (pc := 100) rw_170_100 (x := (0 : Int32)) rfl rfl (to_is (pc := 101) rw_170_101 (ls2 := [.ref 77, .int v94, .int (M74.2.1 77 9), .int v163, .int (0 : Int32), .null, .null, .null, .null]) rfl rfl (to_in (pc := 103) rw_170_103 rfl (to_c (pc := 104) rw_170_104 (x := (1 : Int32)) rfl rfl (b_cne (pc := 105) rw_170_105 (A := v163.toInt) (B := 1) rfl rfl (fun h480 => ?_) (fun h480 => ?_)))))
                · refine to_in (pc := 112) rw_170_112 rfl (to_c (pc := 113) rw_170_113 (x := (2 : Int32)) rfl rfl (b_cne_f (pc := 114) rw_170_114 (A := v163.toInt) (B := 2) rfl rfl (by omega) (to_c (pc := 117) rw_170_117 (x := (4 : Int32)) rfl rfl (to_go (pc := 118) rw_170_118 (to_is (pc := 122) rw_170_122 (ls2 := [.ref 77, .int v94, .int (M74.2.1 77 9), .int v163, .int (0 : Int32), .int (4 : Int32), .null, .null, .null]) rfl rfl (to_an (pc := 124) rw_170_124 rfl (to_c (pc := 125) rw_170_125 (x := (0 : Int32)) rfl rfl (to_an (pc := 126) rw_170_126 rfl ?_))))))))
                  have c_481 : M170.2.1 77 14 = (M.2.1 77 14) := (F_n F165 (show ¬ (77 = 77 ∧ 7 ≤ 14 ∧ 14 ≤ 10) by decide) (F_n F101 (show ¬ (77 = 77 ∧ 7 ≤ 14 ∧ 14 ≤ 10) by decide) (F_n F85 (show ¬ (77 = 77 ∧ (14 = 4 ∨ 14 = 5)) by decide) (F_n F69 (show ¬ (77 = 77 ∧ 7 ≤ 14 ∧ 14 ≤ 10) by decide) rfl))))
                  have b_482 := g_b hG (a := 77) (i := 14) (lo := 10) (hi := 60) rfl rfl
                  refine tt_gI (pc := 127) rw_170_127 (g_o hG166 rfl) (v := (M.2.1 77 14)) c_481 (to_c (pc := 130) rw_170_130 (x := (1 : Int32)) rfl rfl (s_sub (pc := 131) rw_170_131 (A := (M.2.1 77 14).toInt) (B := 1) rfl rfl (by omega) (fun v483 e484 => to_i (pc := 132) rw_170_132 rfl (s_sub (pc := 134) rw_170_134 (A := v483.toInt) (B := 4) rfl rfl (by omega) (fun v485 e486 => s_v (pc := 135) rw_170_135 (dp0 hd (by decide)) (ls0 := [.ref 77, .int (0 : Int32), .int v485]) rfl (Nat.le_of_ble_eq_true rfl) (Nat.le_of_ble_eq_true rfl) rfl (to_rc rfl rfl rfl (g_o hG166 rfl)) rfl (to_an (pc := 0) rw_162_0 rfl (tt_gI (pc := 1) rw_162_1 (g_o hG166 rfl) (v := (M170.2.1 77 8)) rfl (to_c (pc := 4) rw_162_4 (x := (3 : Int32)) rfl rfl (b_ceq (pc := 5) rw_162_5 (A := (M170.2.1 77 8).toInt) (B := 3) rfl rfl (fun h487 => ?_) (fun h487 => ?_))))))))))
                  · refine to_an (pc := 14) rw_162_14 rfl (tt_gI (pc := 15) rw_162_15 (g_o hG166 rfl) (v := (M170.2.1 77 9)) rfl (to_in (pc := 18) rw_162_18 rfl (b_clt (pc := 19) rw_162_19 (A := (M170.2.1 77 9).toInt) (B := 0) rfl rfl (fun h488 => ?_) (fun h488 => ?_))))
                    · refine to_an (pc := 30) rw_162_30 rfl (to_c (pc := 31) rw_162_31 (x := (2 : Int32)) rfl rfl (s_v (pc := 32) rw_162_32 (dp1 hd (by decide)) (ls0 := [.ref 77, .int (2 : Int32)]) rfl (Nat.le_of_ble_eq_true rfl) (Nat.le_of_ble_eq_true rfl) rfl (to_rc rfl rfl rfl (g_o hG166 rfl)) rfl (to_an (pc := 0) rw_152_0 rfl (to_in (pc := 1) rw_152_1 rfl (s_pI (pc := 2) rw_152_2 hG166 rfl (fun M490 W489 => ?_))))))
                      have hG491 := g_wf hG166 W489 rfl rfl (by decide)
                      have F492 := FR.w F171 W489 (show 77 = 77 ∧ (4 = 4 ∨ 4 = 5 ∨ 7 ≤ 4 ∧ 4 ≤ 10 ∨ 14 ≤ 4 ∧ 4 ≤ 16 ∨ 4 = 25) ∨ 80 ≤ 77 ∧ 77 ≤ 84 ∧ 8 ≤ 4 ∨ 85 ≤ 77 ∧ 77 ≤ 87 ∧ 12 ≤ 4 by decide)
                      refine to_an (pc := 5) rw_152_5 rfl (to_an (pc := 6) rw_152_6 rfl ?_)
                      have c_493 : M490.2.1 77 10 = (M170.2.1 77 10) := (W_n W489 (by decide) rfl)
                      have b_494 := g_b hG166 (a := 77) (i := 10) (lo := 0) (hi := 500) rfl rfl
                      refine tt_gI (pc := 7) rw_152_7 (g_o hG491 rfl) (v := (M170.2.1 77 10)) c_493 (s_pI (pc := 10) rw_152_10 hG491 rfl (fun M496 W495 => ?_))
                      have hG497 := g_wf hG491 W495 rfl rfl (by decide)
                      have F498 := FR.w F492 W495 (show 77 = 77 ∧ (5 = 4 ∨ 5 = 5 ∨ 7 ≤ 5 ∧ 5 ≤ 10 ∨ 14 ≤ 5 ∧ 5 ≤ 16 ∨ 5 = 25) ∨ 80 ≤ 77 ∧ 77 ≤ 84 ∧ 8 ≤ 5 ∨ 85 ≤ 77 ∧ 77 ≤ 87 ∧ 12 ≤ 5 by decide)
                      refine to_c (pc := 13) rw_152_13 (x := (0 : Int32)) rfl rfl (s_r1 (pc := 14) rw_152_14 (A := 0) rfl (by decide) (b_ieq_t (pc := 35) rw_162_35 (A := 0) rfl (by decide) (to_c (pc := 42) rw_162_42 (x := (0 : Int32)) rfl rfl (s_r1 (pc := 43) rw_162_43 (A := 0) rfl (by decide) (b_ine_f (pc := 138) rw_170_138 (A := 0) rfl (by decide) (to_c (pc := 141) rw_170_141 (x := (0 : Int32)) rfl rfl (s_r1 (pc := 142) rw_170_142 (A := 0) rfl (by decide) ?_)))))))
                      have k_499 : (0 : Int32).toInt = 0 := rfl
                      have c_500 : M496.2.1 77 7 = (M170.2.1 77 7) := (W_n W495 (by decide) (W_n W489 (by decide) rfl))
                      have t_501 : (M496.2.1 77 7).toInt = (M170.2.1 77 7).toInt := congrArg Int32.toInt c_500
                      have c_502 : M496.2.1 77 6 = (M.2.1 77 6) := (W_n W495 (by decide) (W_n W489 (by decide) c_173))
                      have t_503 : (M496.2.1 77 6).toInt = (M.2.1 77 6).toInt := congrArg Int32.toInt c_502
                      have c_504 : M496.2.1 77 8 = (M170.2.1 77 8) := (W_n W495 (by decide) (W_n W489 (by decide) rfl))
                      have t_505 : (M496.2.1 77 8).toInt = (M170.2.1 77 8).toInt := congrArg Int32.toInt c_504
                      have j_506 := (FA_f (fun a i z => W_n W495 (tg_320 a i z) rfl) (FA_f (fun a i z => W_n W489 (tg_321 a i z) rfl) (FA_f (tg_309 F165) (FA_f (tg_309 F101) (FA_f (tg_310 F85) (FA_f (tg_309 F69) q2))))))
                      have j_507 := (WR_f (fun a i z => W_n W495 (by /-r77,5-/ omega) rfl) (WR_f (fun a i z => W_n W489 (by /-r77,4-/ omega) rfl) (WR_f (tg_311 F165) (WR_f (tg_311 F101) (WR_f (tg_312 F85) (WR_f (tg_311 F69) q3))))))
                      have c_508 : M496.2.1 77 4 = (2 : Int32) := (W_n W495 (by decide) (W_e W489))
                      have k_509 : (2 : Int32).toInt = 2 := rfl
                      have t_510 : (M496.2.1 77 4).toInt = (2 : Int32).toInt := congrArg Int32.toInt c_508
                      have c_511 : M496.2.1 77 5 = (M170.2.1 77 10) := (W_e W495)
                      have t_512 : (M496.2.1 77 5).toInt = (M170.2.1 77 10).toInt := congrArg Int32.toInt c_511
                      exact h (0 : Int32) M496 hG497 F498 (by decide) (by decide) (by omega) (by omega) (by omega) j_506 j_507 (by omega)
                    · refine to_an (pc := 22) rw_162_22 rfl (tt_gI (pc := 23) rw_162_23 (g_o hG166 rfl) (v := (M170.2.1 77 9)) rfl (to_in (pc := 26) rw_162_26 rfl (b_cle (pc := 27) rw_162_27 (A := (M170.2.1 77 9).toInt) (B := v485.toInt) rfl rfl (fun h513 => ?_) (fun h513 => ?_))))
                      · refine to_c (pc := 38) rw_162_38 (x := (1 : Int32)) rfl rfl (to_go (pc := 39) rw_162_39 (s_r1 (pc := 43) rw_162_43 (A := 1) rfl (by decide) (b_ine_t (pc := 138) rw_170_138 (A := 1) rfl (by decide) (to_an (pc := 143) rw_170_143 rfl (tt_gI (pc := 144) rw_170_144 (g_o hG166 rfl) (v := (M170.2.1 77 9)) rfl (to_is (pc := 147) rw_170_147 (ls2 := [.ref 77, .int v94, .int (M74.2.1 77 9), .int v163, .int (0 : Int32), .int (4 : Int32), .int (M170.2.1 77 9), .null, .null]) rfl rfl (to_an (pc := 149) rw_170_149 rfl (s_gJ (pc := 150) rw_170_150 hG166 rfl (fun l514 => to_i (pc := 153) rw_170_153 rfl (to_i (pc := 155) rw_170_155 rfl (to_i (pc := 157) rw_170_157 rfl ?_)))))))))))
                        refine s_add (pc := 159) rw_170_159 (A := (M170.2.1 77 9).toInt) (B := 4) rfl rfl (by omega) (fun v515 e516 => s_s (pc := 160) rw_170_160 (dp0 hd (by decide)) (ls0 := [.int (M170.2.1 77 9), .int v515, .null, .null, .null]) rfl (Nat.le_of_ble_eq_true rfl) (Nat.le_of_ble_eq_true rfl) rfl (to_rcs rfl rfl) rfl (C_168 hX (dp1 hd (by decide)) hG166 (by omega) (by omega) (by omega) (a := (M170.2.1 77 9)) (b := v515) (fun r517 M520 hG519 F518 => ?_)))
                        have F521 := FR.c F171 F518 tg_316
                        refine s_anyL (pc := 163) rw_170_163 (fun _ _ => rfl) (fun l522 => s_cl (pc := 164) rw_170_164 rfl (fun l523 => s_lcmp (pc := 165) rw_170_165 (fun v524 => b_ieq (pc := 166) rw_170_166 (A := v524.toInt) rfl (fun h525 => ?_) (fun h525 => ?_))))
                        · refine to_an (pc := 175) rw_170_175 rfl (s_v (pc := 176) rw_170_176 (dp0 hd (by decide)) (ls0 := [.ref 77]) rfl (Nat.le_of_ble_eq_true rfl) (Nat.le_of_ble_eq_true rfl) rfl (to_rc rfl rfl rfl (g_o hG519 rfl)) rfl ?_)
                          have c_526 : M520.2.1 77 7 = (M170.2.1 77 7) := (F_n F518 (show ¬ (77 < 0) by decide) rfl)
                          have t_527 : (M520.2.1 77 7).toInt = (M170.2.1 77 7).toInt := congrArg Int32.toInt c_526
                          have c_528 : M520.2.1 77 6 = (M.2.1 77 6) := (F_n F518 (show ¬ (77 < 0) by decide) c_173)
                          have t_529 : (M520.2.1 77 6).toInt = (M.2.1 77 6).toInt := congrArg Int32.toInt c_528
                          refine C_156 hX (dp1 hd (by decide)) hG519 (by omega)  (fun M535 hG531 F530 p_532 p_533 p_534 => ?_)
                          have F536 := FR.c F521 F530 tg_79
                          have b_537 := g_b hG531 (a := 77) (i := 7) (lo := 0) (hi := 500) rfl rfl
                          have c_538 : M535.2.1 77 6 = (M.2.1 77 6) := (F_n F530 (show ¬ (77 = 77 ∧ 7 ≤ 6 ∧ 6 ≤ 10) by decide) c_528)
                          have t_539 : (M535.2.1 77 6).toInt = (M.2.1 77 6).toInt := congrArg Int32.toInt c_538
                          have b_540 := g_b hG531 (a := 77) (i := 8) (lo := 0) (hi := 5) rfl rfl
                          refine to_i (pc := 179) rw_170_179 rfl (to_i (pc := 181) rw_170_181 rfl (s_add (pc := 183) rw_170_183 (A := (M170.2.1 77 9).toInt) (B := 4) rfl rfl (by omega) (fun v541 e542 => to_is (pc := 184) rw_170_184 (ls2 := [.ref 77, .int v94, .int (M74.2.1 77 9), .int v163, .int (0 : Int32), .int (4 : Int32), .int (M170.2.1 77 9), .int v541, .null]) rfl rfl (to_c (pc := 186) rw_170_186 (x := (10 : Int32)) rfl rfl (to_is (pc := 188) rw_170_188 (ls2 := [.ref 77, .int v94, .int (M74.2.1 77 9), .int v163, .int (0 : Int32), .int (4 : Int32), .int (M170.2.1 77 9), .int v541, .int (10 : Int32)]) rfl rfl (to_i (pc := 190) rw_170_190 rfl (b_ieq_t (pc := 192) rw_170_192 (A := 0) rfl (by decide) ?_)))))))
                          have k_543 : (10 : Int32).toInt = 10 := rfl
                          have c_544 : M535.2.1 77 15 = (M.2.1 77 15) := (F_n F530 (show ¬ (77 = 77 ∧ 7 ≤ 15 ∧ 15 ≤ 10) by decide) (F_n F518 (show ¬ (77 < 0) by decide) (F_n F165 (show ¬ (77 = 77 ∧ 7 ≤ 15 ∧ 15 ≤ 10) by decide) (F_n F101 (show ¬ (77 = 77 ∧ 7 ≤ 15 ∧ 15 ≤ 10) by decide) c_93))))
                          have t_545 : (M535.2.1 77 15).toInt = (M.2.1 77 15).toInt := congrArg Int32.toInt c_544
                          have j_546 := (FA_f (tg_309 F530) (FA_f (tg_307 F518) (FA_f (tg_309 F165) (FA_f (tg_309 F101) (FA_f (tg_310 F85) (FA_f (tg_309 F69) q2))))))
                          have j_547 := (WR_f (tg_311 F530) (WR_f (tg_308 F518) (WR_f (tg_311 F165) (WR_f (tg_311 F101) (WR_f (tg_312 F85) (WR_f (tg_311 F69) q3))))))
                          have c_548 : M535.2.1 77 4 = (M90.2.1 77 4) := (F_n F530 (show ¬ (77 = 77 ∧ 7 ≤ 4 ∧ 4 ≤ 10) by decide) (F_n F518 (show ¬ (77 < 0) by decide) (F_n F165 (show ¬ (77 = 77 ∧ 7 ≤ 4 ∧ 4 ≤ 10) by decide) (F_n F101 (show ¬ (77 = 77 ∧ 7 ≤ 4 ∧ 4 ≤ 10) by decide) rfl))))
                          have t_549 : (M535.2.1 77 4).toInt = (M90.2.1 77 4).toInt := congrArg Int32.toInt c_548
                          have c_550 : M535.2.1 77 5 = (M90.2.1 77 5) := (F_n F530 (show ¬ (77 = 77 ∧ 7 ≤ 5 ∧ 5 ≤ 10) by decide) (F_n F518 (show ¬ (77 < 0) by decide) (F_n F165 (show ¬ (77 = 77 ∧ 7 ≤ 5 ∧ 5 ≤ 10) by decide) (F_n F101 (show ¬ (77 = 77 ∧ 7 ≤ 5 ∧ 5 ≤ 10) by decide) rfl))))
                          have t_551 : (M535.2.1 77 5).toInt = (M90.2.1 77 5).toInt := congrArg Int32.toInt c_550
                          exact (T_170_0 hX hd q1 q2 q3 h (((0 : Int)).toNat + 1)) M535 v94 (M74.2.1 77 9) v163 (.int (0 : Int32)) (.int (4 : Int32)) (M170.2.1 77 9) v541 (10 : Int32) hG531 F536 (by omega) (by omega) (by omega) (by omega) (by omega) (by omega) (by omega) (by omega) (by omega) (by omega) (by omega) (by omega) (by omega) (by omega) (by omega) j_546 j_547 (by omega) (by omega)
                        · refine to_an (pc := 169) rw_170_169 rfl (to_c (pc := 170) rw_170_170 (x := (3 : Int32)) rfl rfl (s_v (pc := 171) rw_170_171 (dp0 hd (by decide)) (ls0 := [.ref 77, .int (3 : Int32)]) rfl (Nat.le_of_ble_eq_true rfl) (Nat.le_of_ble_eq_true rfl) rfl (to_rc rfl rfl rfl (g_o hG519 rfl)) rfl (to_an (pc := 0) rw_152_0 rfl (to_in (pc := 1) rw_152_1 rfl (s_pI (pc := 2) rw_152_2 hG519 rfl (fun M553 W552 => ?_))))))
                          have hG554 := g_wf hG519 W552 rfl rfl (by decide)
                          have F555 := FR.w F521 W552 (show 77 = 77 ∧ (4 = 4 ∨ 4 = 5 ∨ 7 ≤ 4 ∧ 4 ≤ 10 ∨ 14 ≤ 4 ∧ 4 ≤ 16 ∨ 4 = 25) ∨ 80 ≤ 77 ∧ 77 ≤ 84 ∧ 8 ≤ 4 ∨ 85 ≤ 77 ∧ 77 ≤ 87 ∧ 12 ≤ 4 by decide)
                          refine to_an (pc := 5) rw_152_5 rfl (to_an (pc := 6) rw_152_6 rfl ?_)
                          have c_556 : M553.2.1 77 10 = (M170.2.1 77 10) := (W_n W552 (by decide) (F_n F518 (show ¬ (77 < 0) by decide) rfl))
                          have b_557 := g_b hG166 (a := 77) (i := 10) (lo := 0) (hi := 500) rfl rfl
                          refine tt_gI (pc := 7) rw_152_7 (g_o hG554 rfl) (v := (M170.2.1 77 10)) c_556 (s_pI (pc := 10) rw_152_10 hG554 rfl (fun M559 W558 => ?_))
                          have hG560 := g_wf hG554 W558 rfl rfl (by decide)
                          have F561 := FR.w F555 W558 (show 77 = 77 ∧ (5 = 4 ∨ 5 = 5 ∨ 7 ≤ 5 ∧ 5 ≤ 10 ∨ 14 ≤ 5 ∧ 5 ≤ 16 ∨ 5 = 25) ∨ 80 ≤ 77 ∧ 77 ≤ 84 ∧ 8 ≤ 5 ∨ 85 ≤ 77 ∧ 77 ≤ 87 ∧ 12 ≤ 5 by decide)
                          refine to_c (pc := 13) rw_152_13 (x := (0 : Int32)) rfl rfl (s_r1 (pc := 14) rw_152_14 (A := 0) rfl (by decide) (s_r1 (pc := 174) rw_170_174 (A := 0) rfl (by decide) ?_))
                          have k_562 : (0 : Int32).toInt = 0 := rfl
                          have c_563 : M559.2.1 77 7 = (M170.2.1 77 7) := (W_n W558 (by decide) (W_n W552 (by decide) (F_n F518 (show ¬ (77 < 0) by decide) rfl)))
                          have t_564 : (M559.2.1 77 7).toInt = (M170.2.1 77 7).toInt := congrArg Int32.toInt c_563
                          have c_565 : M559.2.1 77 6 = (M.2.1 77 6) := (W_n W558 (by decide) (W_n W552 (by decide) (F_n F518 (show ¬ (77 < 0) by decide) c_173)))
                          have t_566 : (M559.2.1 77 6).toInt = (M.2.1 77 6).toInt := congrArg Int32.toInt c_565
                          have c_567 : M559.2.1 77 8 = (M170.2.1 77 8) := (W_n W558 (by decide) (W_n W552 (by decide) (F_n F518 (show ¬ (77 < 0) by decide) rfl)))
                          have t_568 : (M559.2.1 77 8).toInt = (M170.2.1 77 8).toInt := congrArg Int32.toInt c_567
                          have j_569 := (FA_f (fun a i z => W_n W558 (tg_320 a i z) rfl) (FA_f (fun a i z => W_n W552 (tg_321 a i z) rfl) (FA_f (tg_307 F518) (FA_f (tg_309 F165) (FA_f (tg_309 F101) (FA_f (tg_310 F85) (FA_f (tg_309 F69) q2)))))))
                          have j_570 := (WR_f (fun a i z => W_n W558 (by /-r77,5-/ omega) rfl) (WR_f (fun a i z => W_n W552 (by /-r77,4-/ omega) rfl) (WR_f (tg_308 F518) (WR_f (tg_311 F165) (WR_f (tg_311 F101) (WR_f (tg_312 F85) (WR_f (tg_311 F69) q3)))))))
                          have c_571 : M559.2.1 77 4 = (3 : Int32) := (W_n W558 (by decide) (W_e W552))
                          have k_572 : (3 : Int32).toInt = 3 := rfl
                          have t_573 : (M559.2.1 77 4).toInt = (3 : Int32).toInt := congrArg Int32.toInt c_571
                          have c_574 : M559.2.1 77 5 = (M170.2.1 77 10) := (W_e W558)
                          have t_575 : (M559.2.1 77 5).toInt = (M170.2.1 77 10).toInt := congrArg Int32.toInt c_574
                          exact h (0 : Int32) M559 hG560 F561 (by decide) (by decide) (by omega) (by omega) (by omega) j_569 j_570 (by omega)
                      · refine to_an (pc := 30) rw_162_30 rfl (to_c (pc := 31) rw_162_31 (x := (2 : Int32)) rfl rfl (s_v (pc := 32) rw_162_32 (dp1 hd (by decide)) (ls0 := [.ref 77, .int (2 : Int32)]) rfl (Nat.le_of_ble_eq_true rfl) (Nat.le_of_ble_eq_true rfl) rfl (to_rc rfl rfl rfl (g_o hG166 rfl)) rfl (to_an (pc := 0) rw_152_0 rfl (to_in (pc := 1) rw_152_1 rfl (s_pI (pc := 2) rw_152_2 hG166 rfl (fun M577 W576 => ?_))))))
                        have hG578 := g_wf hG166 W576 rfl rfl (by decide)
                        have F579 := FR.w F171 W576 (show 77 = 77 ∧ (4 = 4 ∨ 4 = 5 ∨ 7 ≤ 4 ∧ 4 ≤ 10 ∨ 14 ≤ 4 ∧ 4 ≤ 16 ∨ 4 = 25) ∨ 80 ≤ 77 ∧ 77 ≤ 84 ∧ 8 ≤ 4 ∨ 85 ≤ 77 ∧ 77 ≤ 87 ∧ 12 ≤ 4 by decide)
                        refine to_an (pc := 5) rw_152_5 rfl (to_an (pc := 6) rw_152_6 rfl ?_)
                        have c_580 : M577.2.1 77 10 = (M170.2.1 77 10) := (W_n W576 (by decide) rfl)
                        have b_581 := g_b hG166 (a := 77) (i := 10) (lo := 0) (hi := 500) rfl rfl
                        refine tt_gI (pc := 7) rw_152_7 (g_o hG578 rfl) (v := (M170.2.1 77 10)) c_580 (s_pI (pc := 10) rw_152_10 hG578 rfl (fun M583 W582 => ?_))
                        have hG584 := g_wf hG578 W582 rfl rfl (by decide)
                        have F585 := FR.w F579 W582 (show 77 = 77 ∧ (5 = 4 ∨ 5 = 5 ∨ 7 ≤ 5 ∧ 5 ≤ 10 ∨ 14 ≤ 5 ∧ 5 ≤ 16 ∨ 5 = 25) ∨ 80 ≤ 77 ∧ 77 ≤ 84 ∧ 8 ≤ 5 ∨ 85 ≤ 77 ∧ 77 ≤ 87 ∧ 12 ≤ 5 by decide)
                        refine to_c (pc := 13) rw_152_13 (x := (0 : Int32)) rfl rfl (s_r1 (pc := 14) rw_152_14 (A := 0) rfl (by decide) (b_ieq_t (pc := 35) rw_162_35 (A := 0) rfl (by decide) (to_c (pc := 42) rw_162_42 (x := (0 : Int32)) rfl rfl (s_r1 (pc := 43) rw_162_43 (A := 0) rfl (by decide) (b_ine_f (pc := 138) rw_170_138 (A := 0) rfl (by decide) (to_c (pc := 141) rw_170_141 (x := (0 : Int32)) rfl rfl (s_r1 (pc := 142) rw_170_142 (A := 0) rfl (by decide) ?_)))))))
                        have k_586 : (0 : Int32).toInt = 0 := rfl
                        have c_587 : M583.2.1 77 7 = (M170.2.1 77 7) := (W_n W582 (by decide) (W_n W576 (by decide) rfl))
                        have t_588 : (M583.2.1 77 7).toInt = (M170.2.1 77 7).toInt := congrArg Int32.toInt c_587
                        have c_589 : M583.2.1 77 6 = (M.2.1 77 6) := (W_n W582 (by decide) (W_n W576 (by decide) c_173))
                        have t_590 : (M583.2.1 77 6).toInt = (M.2.1 77 6).toInt := congrArg Int32.toInt c_589
                        have c_591 : M583.2.1 77 8 = (M170.2.1 77 8) := (W_n W582 (by decide) (W_n W576 (by decide) rfl))
                        have t_592 : (M583.2.1 77 8).toInt = (M170.2.1 77 8).toInt := congrArg Int32.toInt c_591
                        have j_593 := (FA_f (fun a i z => W_n W582 (tg_320 a i z) rfl) (FA_f (fun a i z => W_n W576 (tg_321 a i z) rfl) (FA_f (tg_309 F165) (FA_f (tg_309 F101) (FA_f (tg_310 F85) (FA_f (tg_309 F69) q2))))))
                        have j_594 := (WR_f (fun a i z => W_n W582 (by /-r77,5-/ omega) rfl) (WR_f (fun a i z => W_n W576 (by /-r77,4-/ omega) rfl) (WR_f (tg_311 F165) (WR_f (tg_311 F101) (WR_f (tg_312 F85) (WR_f (tg_311 F69) q3))))))
                        have c_595 : M583.2.1 77 4 = (2 : Int32) := (W_n W582 (by decide) (W_e W576))
                        have k_596 : (2 : Int32).toInt = 2 := rfl
                        have t_597 : (M583.2.1 77 4).toInt = (2 : Int32).toInt := congrArg Int32.toInt c_595
                        have c_598 : M583.2.1 77 5 = (M170.2.1 77 10) := (W_e W582)
                        have t_599 : (M583.2.1 77 5).toInt = (M170.2.1 77 10).toInt := congrArg Int32.toInt c_598
                        exact h (0 : Int32) M583 hG584 F585 (by decide) (by decide) (by omega) (by omega) (by omega) j_593 j_594 (by omega)
                  · refine to_an (pc := 8) rw_162_8 rfl (to_c (pc := 9) rw_162_9 (x := (1 : Int32)) rfl rfl (s_v (pc := 10) rw_162_10 (dp1 hd (by decide)) (ls0 := [.ref 77, .int (1 : Int32)]) rfl (Nat.le_of_ble_eq_true rfl) (Nat.le_of_ble_eq_true rfl) rfl (to_rc rfl rfl rfl (g_o hG166 rfl)) rfl (to_an (pc := 0) rw_152_0 rfl (to_in (pc := 1) rw_152_1 rfl (s_pI (pc := 2) rw_152_2 hG166 rfl (fun M601 W600 => ?_))))))
                    have hG602 := g_wf hG166 W600 rfl rfl (by decide)
                    have F603 := FR.w F171 W600 (show 77 = 77 ∧ (4 = 4 ∨ 4 = 5 ∨ 7 ≤ 4 ∧ 4 ≤ 10 ∨ 14 ≤ 4 ∧ 4 ≤ 16 ∨ 4 = 25) ∨ 80 ≤ 77 ∧ 77 ≤ 84 ∧ 8 ≤ 4 ∨ 85 ≤ 77 ∧ 77 ≤ 87 ∧ 12 ≤ 4 by decide)
                    refine to_an (pc := 5) rw_152_5 rfl (to_an (pc := 6) rw_152_6 rfl ?_)
                    have c_604 : M601.2.1 77 10 = (M170.2.1 77 10) := (W_n W600 (by decide) rfl)
                    have b_605 := g_b hG166 (a := 77) (i := 10) (lo := 0) (hi := 500) rfl rfl
                    refine tt_gI (pc := 7) rw_152_7 (g_o hG602 rfl) (v := (M170.2.1 77 10)) c_604 (s_pI (pc := 10) rw_152_10 hG602 rfl (fun M607 W606 => ?_))
                    have hG608 := g_wf hG602 W606 rfl rfl (by decide)
                    have F609 := FR.w F603 W606 (show 77 = 77 ∧ (5 = 4 ∨ 5 = 5 ∨ 7 ≤ 5 ∧ 5 ≤ 10 ∨ 14 ≤ 5 ∧ 5 ≤ 16 ∨ 5 = 25) ∨ 80 ≤ 77 ∧ 77 ≤ 84 ∧ 8 ≤ 5 ∨ 85 ≤ 77 ∧ 77 ≤ 87 ∧ 12 ≤ 5 by decide)
                    refine to_c (pc := 13) rw_152_13 (x := (0 : Int32)) rfl rfl (s_r1 (pc := 14) rw_152_14 (A := 0) rfl (by decide) (s_r1 (pc := 13) rw_162_13 (A := 0) rfl (by decide) (b_ine_f (pc := 138) rw_170_138 (A := 0) rfl (by decide) (to_c (pc := 141) rw_170_141 (x := (0 : Int32)) rfl rfl (s_r1 (pc := 142) rw_170_142 (A := 0) rfl (by decide) ?_)))))
                    have k_610 : (0 : Int32).toInt = 0 := rfl
                    have c_611 : M607.2.1 77 7 = (M170.2.1 77 7) := (W_n W606 (by decide) (W_n W600 (by decide) rfl))
                    have t_612 : (M607.2.1 77 7).toInt = (M170.2.1 77 7).toInt := congrArg Int32.toInt c_611
                    have c_613 : M607.2.1 77 6 = (M.2.1 77 6) := (W_n W606 (by decide) (W_n W600 (by decide) c_173))
                    have t_614 : (M607.2.1 77 6).toInt = (M.2.1 77 6).toInt := congrArg Int32.toInt c_613
                    have c_615 : M607.2.1 77 8 = (M170.2.1 77 8) := (W_n W606 (by decide) (W_n W600 (by decide) rfl))
                    have t_616 : (M607.2.1 77 8).toInt = (M170.2.1 77 8).toInt := congrArg Int32.toInt c_615
                    have j_617 := (FA_f (fun a i z => W_n W606 (tg_320 a i z) rfl) (FA_f (fun a i z => W_n W600 (tg_321 a i z) rfl) (FA_f (tg_309 F165) (FA_f (tg_309 F101) (FA_f (tg_310 F85) (FA_f (tg_309 F69) q2))))))
                    have j_618 := (WR_f (fun a i z => W_n W606 (by /-r77,5-/ omega) rfl) (WR_f (fun a i z => W_n W600 (by /-r77,4-/ omega) rfl) (WR_f (tg_311 F165) (WR_f (tg_311 F101) (WR_f (tg_312 F85) (WR_f (tg_311 F69) q3))))))
                    have c_619 : M607.2.1 77 4 = (1 : Int32) := (W_n W606 (by decide) (W_e W600))
                    have k_620 : (1 : Int32).toInt = 1 := rfl
                    have t_621 : (M607.2.1 77 4).toInt = (1 : Int32).toInt := congrArg Int32.toInt c_619
                    have c_622 : M607.2.1 77 5 = (M170.2.1 77 10) := (W_e W606)
                    have t_623 : (M607.2.1 77 5).toInt = (M170.2.1 77 10).toInt := congrArg Int32.toInt c_622
                    exact h (0 : Int32) M607 hG608 F609 (by decide) (by decide) (by omega) (by omega) (by omega) j_617 j_618 (by omega)
                · refine to_c (pc := 108) rw_170_108 (x := (3 : Int32)) rfl rfl (to_go (pc := 109) rw_170_109 (to_is (pc := 122) rw_170_122 (ls2 := [.ref 77, .int v94, .int (M74.2.1 77 9), .int v163, .int (0 : Int32), .int (3 : Int32), .null, .null, .null]) rfl rfl (to_an (pc := 124) rw_170_124 rfl (to_c (pc := 125) rw_170_125 (x := (0 : Int32)) rfl rfl (to_an (pc := 126) rw_170_126 rfl ?_)))))
                  have c_624 : M170.2.1 77 14 = (M.2.1 77 14) := (F_n F165 (show ¬ (77 = 77 ∧ 7 ≤ 14 ∧ 14 ≤ 10) by decide) (F_n F101 (show ¬ (77 = 77 ∧ 7 ≤ 14 ∧ 14 ≤ 10) by decide) (F_n F85 (show ¬ (77 = 77 ∧ (14 = 4 ∨ 14 = 5)) by decide) (F_n F69 (show ¬ (77 = 77 ∧ 7 ≤ 14 ∧ 14 ≤ 10) by decide) rfl))))
                  have b_625 := g_b hG (a := 77) (i := 14) (lo := 10) (hi := 60) rfl rfl
                  refine tt_gI (pc := 127) rw_170_127 (g_o hG166 rfl) (v := (M.2.1 77 14)) c_624 (to_c (pc := 130) rw_170_130 (x := (1 : Int32)) rfl rfl (s_sub (pc := 131) rw_170_131 (A := (M.2.1 77 14).toInt) (B := 1) rfl rfl (by omega) (fun v626 e627 => to_i (pc := 132) rw_170_132 rfl (s_sub (pc := 134) rw_170_134 (A := v626.toInt) (B := 3) rfl rfl (by omega) (fun v628 e629 => s_v (pc := 135) rw_170_135 (dp0 hd (by decide)) (ls0 := [.ref 77, .int (0 : Int32), .int v628]) rfl (Nat.le_of_ble_eq_true rfl) (Nat.le_of_ble_eq_true rfl) rfl (to_rc rfl rfl rfl (g_o hG166 rfl)) rfl (to_an (pc := 0) rw_162_0 rfl (tt_gI (pc := 1) rw_162_1 (g_o hG166 rfl) (v := (M170.2.1 77 8)) rfl (to_c (pc := 4) rw_162_4 (x := (3 : Int32)) rfl rfl (b_ceq (pc := 5) rw_162_5 (A := (M170.2.1 77 8).toInt) (B := 3) rfl rfl (fun h630 => ?_) (fun h630 => ?_))))))))))
                  · refine to_an (pc := 14) rw_162_14 rfl (tt_gI (pc := 15) rw_162_15 (g_o hG166 rfl) (v := (M170.2.1 77 9)) rfl (to_in (pc := 18) rw_162_18 rfl (b_clt (pc := 19) rw_162_19 (A := (M170.2.1 77 9).toInt) (B := 0) rfl rfl (fun h631 => ?_) (fun h631 => ?_))))
                    · refine to_an (pc := 30) rw_162_30 rfl (to_c (pc := 31) rw_162_31 (x := (2 : Int32)) rfl rfl (s_v (pc := 32) rw_162_32 (dp1 hd (by decide)) (ls0 := [.ref 77, .int (2 : Int32)]) rfl (Nat.le_of_ble_eq_true rfl) (Nat.le_of_ble_eq_true rfl) rfl (to_rc rfl rfl rfl (g_o hG166 rfl)) rfl (to_an (pc := 0) rw_152_0 rfl (to_in (pc := 1) rw_152_1 rfl (s_pI (pc := 2) rw_152_2 hG166 rfl (fun M633 W632 => ?_))))))
                      have hG634 := g_wf hG166 W632 rfl rfl (by decide)
                      have F635 := FR.w F171 W632 (show 77 = 77 ∧ (4 = 4 ∨ 4 = 5 ∨ 7 ≤ 4 ∧ 4 ≤ 10 ∨ 14 ≤ 4 ∧ 4 ≤ 16 ∨ 4 = 25) ∨ 80 ≤ 77 ∧ 77 ≤ 84 ∧ 8 ≤ 4 ∨ 85 ≤ 77 ∧ 77 ≤ 87 ∧ 12 ≤ 4 by decide)
                      refine to_an (pc := 5) rw_152_5 rfl (to_an (pc := 6) rw_152_6 rfl ?_)
                      have c_636 : M633.2.1 77 10 = (M170.2.1 77 10) := (W_n W632 (by decide) rfl)
                      have b_637 := g_b hG166 (a := 77) (i := 10) (lo := 0) (hi := 500) rfl rfl
                      refine tt_gI (pc := 7) rw_152_7 (g_o hG634 rfl) (v := (M170.2.1 77 10)) c_636 (s_pI (pc := 10) rw_152_10 hG634 rfl (fun M639 W638 => ?_))
                      have hG640 := g_wf hG634 W638 rfl rfl (by decide)
                      have F641 := FR.w F635 W638 (show 77 = 77 ∧ (5 = 4 ∨ 5 = 5 ∨ 7 ≤ 5 ∧ 5 ≤ 10 ∨ 14 ≤ 5 ∧ 5 ≤ 16 ∨ 5 = 25) ∨ 80 ≤ 77 ∧ 77 ≤ 84 ∧ 8 ≤ 5 ∨ 85 ≤ 77 ∧ 77 ≤ 87 ∧ 12 ≤ 5 by decide)
                      refine to_c (pc := 13) rw_152_13 (x := (0 : Int32)) rfl rfl (s_r1 (pc := 14) rw_152_14 (A := 0) rfl (by decide) (b_ieq_t (pc := 35) rw_162_35 (A := 0) rfl (by decide) (to_c (pc := 42) rw_162_42 (x := (0 : Int32)) rfl rfl (s_r1 (pc := 43) rw_162_43 (A := 0) rfl (by decide) (b_ine_f (pc := 138) rw_170_138 (A := 0) rfl (by decide) (to_c (pc := 141) rw_170_141 (x := (0 : Int32)) rfl rfl (s_r1 (pc := 142) rw_170_142 (A := 0) rfl (by decide) ?_)))))))
                      have k_642 : (0 : Int32).toInt = 0 := rfl
                      have c_643 : M639.2.1 77 7 = (M170.2.1 77 7) := (W_n W638 (by decide) (W_n W632 (by decide) rfl))
                      have t_644 : (M639.2.1 77 7).toInt = (M170.2.1 77 7).toInt := congrArg Int32.toInt c_643
                      have c_645 : M639.2.1 77 6 = (M.2.1 77 6) := (W_n W638 (by decide) (W_n W632 (by decide) c_173))
                      have t_646 : (M639.2.1 77 6).toInt = (M.2.1 77 6).toInt := congrArg Int32.toInt c_645
                      have c_647 : M639.2.1 77 8 = (M170.2.1 77 8) := (W_n W638 (by decide) (W_n W632 (by decide) rfl))
                      have t_648 : (M639.2.1 77 8).toInt = (M170.2.1 77 8).toInt := congrArg Int32.toInt c_647
                      have j_649 := (FA_f (fun a i z => W_n W638 (tg_320 a i z) rfl) (FA_f (fun a i z => W_n W632 (tg_321 a i z) rfl) (FA_f (tg_309 F165) (FA_f (tg_309 F101) (FA_f (tg_310 F85) (FA_f (tg_309 F69) q2))))))
                      have j_650 := (WR_f (fun a i z => W_n W638 (by /-r77,5-/ omega) rfl) (WR_f (fun a i z => W_n W632 (by /-r77,4-/ omega) rfl) (WR_f (tg_311 F165) (WR_f (tg_311 F101) (WR_f (tg_312 F85) (WR_f (tg_311 F69) q3))))))
                      have c_651 : M639.2.1 77 4 = (2 : Int32) := (W_n W638 (by decide) (W_e W632))
                      have k_652 : (2 : Int32).toInt = 2 := rfl
                      have t_653 : (M639.2.1 77 4).toInt = (2 : Int32).toInt := congrArg Int32.toInt c_651
                      have c_654 : M639.2.1 77 5 = (M170.2.1 77 10) := (W_e W638)
                      have t_655 : (M639.2.1 77 5).toInt = (M170.2.1 77 10).toInt := congrArg Int32.toInt c_654
                      exact h (0 : Int32) M639 hG640 F641 (by decide) (by decide) (by omega) (by omega) (by omega) j_649 j_650 (by omega)
                    · refine to_an (pc := 22) rw_162_22 rfl (tt_gI (pc := 23) rw_162_23 (g_o hG166 rfl) (v := (M170.2.1 77 9)) rfl (to_in (pc := 26) rw_162_26 rfl (b_cle (pc := 27) rw_162_27 (A := (M170.2.1 77 9).toInt) (B := v628.toInt) rfl rfl (fun h656 => ?_) (fun h656 => ?_))))
                      · refine to_c (pc := 38) rw_162_38 (x := (1 : Int32)) rfl rfl (to_go (pc := 39) rw_162_39 (s_r1 (pc := 43) rw_162_43 (A := 1) rfl (by decide) (b_ine_t (pc := 138) rw_170_138 (A := 1) rfl (by decide) (to_an (pc := 143) rw_170_143 rfl (tt_gI (pc := 144) rw_170_144 (g_o hG166 rfl) (v := (M170.2.1 77 9)) rfl (to_is (pc := 147) rw_170_147 (ls2 := [.ref 77, .int v94, .int (M74.2.1 77 9), .int v163, .int (0 : Int32), .int (3 : Int32), .int (M170.2.1 77 9), .null, .null]) rfl rfl (to_an (pc := 149) rw_170_149 rfl (s_gJ (pc := 150) rw_170_150 hG166 rfl (fun l657 => to_i (pc := 153) rw_170_153 rfl (to_i (pc := 155) rw_170_155 rfl (to_i (pc := 157) rw_170_157 rfl ?_)))))))))))
                        refine s_add (pc := 159) rw_170_159 (A := (M170.2.1 77 9).toInt) (B := 3) rfl rfl (by omega) (fun v658 e659 => s_s (pc := 160) rw_170_160 (dp0 hd (by decide)) (ls0 := [.int (M170.2.1 77 9), .int v658, .null, .null, .null]) rfl (Nat.le_of_ble_eq_true rfl) (Nat.le_of_ble_eq_true rfl) rfl (to_rcs rfl rfl) rfl (C_168 hX (dp1 hd (by decide)) hG166 (by omega) (by omega) (by omega) (a := (M170.2.1 77 9)) (b := v658) (fun r660 M663 hG662 F661 => ?_)))
                        have F664 := FR.c F171 F661 tg_316
                        refine s_anyL (pc := 163) rw_170_163 (fun _ _ => rfl) (fun l665 => s_cl (pc := 164) rw_170_164 rfl (fun l666 => s_lcmp (pc := 165) rw_170_165 (fun v667 => b_ieq (pc := 166) rw_170_166 (A := v667.toInt) rfl (fun h668 => ?_) (fun h668 => ?_))))
                        · refine to_an (pc := 175) rw_170_175 rfl (s_v (pc := 176) rw_170_176 (dp0 hd (by decide)) (ls0 := [.ref 77]) rfl (Nat.le_of_ble_eq_true rfl) (Nat.le_of_ble_eq_true rfl) rfl (to_rc rfl rfl rfl (g_o hG662 rfl)) rfl ?_)
                          have c_669 : M663.2.1 77 7 = (M170.2.1 77 7) := (F_n F661 (show ¬ (77 < 0) by decide) rfl)
                          have t_670 : (M663.2.1 77 7).toInt = (M170.2.1 77 7).toInt := congrArg Int32.toInt c_669
                          have c_671 : M663.2.1 77 6 = (M.2.1 77 6) := (F_n F661 (show ¬ (77 < 0) by decide) c_173)
                          have t_672 : (M663.2.1 77 6).toInt = (M.2.1 77 6).toInt := congrArg Int32.toInt c_671
                          refine C_156 hX (dp1 hd (by decide)) hG662 (by omega)  (fun M678 hG674 F673 p_675 p_676 p_677 => ?_)
                          have F679 := FR.c F664 F673 tg_79
                          have b_680 := g_b hG674 (a := 77) (i := 7) (lo := 0) (hi := 500) rfl rfl
                          have c_681 : M678.2.1 77 6 = (M.2.1 77 6) := (F_n F673 (show ¬ (77 = 77 ∧ 7 ≤ 6 ∧ 6 ≤ 10) by decide) c_671)
                          have t_682 : (M678.2.1 77 6).toInt = (M.2.1 77 6).toInt := congrArg Int32.toInt c_681
                          have b_683 := g_b hG674 (a := 77) (i := 8) (lo := 0) (hi := 5) rfl rfl
                          refine to_i (pc := 179) rw_170_179 rfl (to_i (pc := 181) rw_170_181 rfl (s_add (pc := 183) rw_170_183 (A := (M170.2.1 77 9).toInt) (B := 3) rfl rfl (by omega) (fun v684 e685 => to_is (pc := 184) rw_170_184 (ls2 := [.ref 77, .int v94, .int (M74.2.1 77 9), .int v163, .int (0 : Int32), .int (3 : Int32), .int (M170.2.1 77 9), .int v684, .null]) rfl rfl (to_c (pc := 186) rw_170_186 (x := (10 : Int32)) rfl rfl (to_is (pc := 188) rw_170_188 (ls2 := [.ref 77, .int v94, .int (M74.2.1 77 9), .int v163, .int (0 : Int32), .int (3 : Int32), .int (M170.2.1 77 9), .int v684, .int (10 : Int32)]) rfl rfl (to_i (pc := 190) rw_170_190 rfl (b_ieq_t (pc := 192) rw_170_192 (A := 0) rfl (by decide) ?_)))))))
                          have k_686 : (10 : Int32).toInt = 10 := rfl
                          have c_687 : M678.2.1 77 15 = (M.2.1 77 15) := (F_n F673 (show ¬ (77 = 77 ∧ 7 ≤ 15 ∧ 15 ≤ 10) by decide) (F_n F661 (show ¬ (77 < 0) by decide) (F_n F165 (show ¬ (77 = 77 ∧ 7 ≤ 15 ∧ 15 ≤ 10) by decide) (F_n F101 (show ¬ (77 = 77 ∧ 7 ≤ 15 ∧ 15 ≤ 10) by decide) c_93))))
                          have t_688 : (M678.2.1 77 15).toInt = (M.2.1 77 15).toInt := congrArg Int32.toInt c_687
                          have j_689 := (FA_f (tg_309 F673) (FA_f (tg_307 F661) (FA_f (tg_309 F165) (FA_f (tg_309 F101) (FA_f (tg_310 F85) (FA_f (tg_309 F69) q2))))))
                          have j_690 := (WR_f (tg_311 F673) (WR_f (tg_308 F661) (WR_f (tg_311 F165) (WR_f (tg_311 F101) (WR_f (tg_312 F85) (WR_f (tg_311 F69) q3))))))
                          have c_691 : M678.2.1 77 4 = (M90.2.1 77 4) := (F_n F673 (show ¬ (77 = 77 ∧ 7 ≤ 4 ∧ 4 ≤ 10) by decide) (F_n F661 (show ¬ (77 < 0) by decide) (F_n F165 (show ¬ (77 = 77 ∧ 7 ≤ 4 ∧ 4 ≤ 10) by decide) (F_n F101 (show ¬ (77 = 77 ∧ 7 ≤ 4 ∧ 4 ≤ 10) by decide) rfl))))
                          have t_692 : (M678.2.1 77 4).toInt = (M90.2.1 77 4).toInt := congrArg Int32.toInt c_691
                          have c_693 : M678.2.1 77 5 = (M90.2.1 77 5) := (F_n F673 (show ¬ (77 = 77 ∧ 7 ≤ 5 ∧ 5 ≤ 10) by decide) (F_n F661 (show ¬ (77 < 0) by decide) (F_n F165 (show ¬ (77 = 77 ∧ 7 ≤ 5 ∧ 5 ≤ 10) by decide) (F_n F101 (show ¬ (77 = 77 ∧ 7 ≤ 5 ∧ 5 ≤ 10) by decide) rfl))))
                          have t_694 : (M678.2.1 77 5).toInt = (M90.2.1 77 5).toInt := congrArg Int32.toInt c_693
                          exact (T_170_0 hX hd q1 q2 q3 h (((0 : Int)).toNat + 1)) M678 v94 (M74.2.1 77 9) v163 (.int (0 : Int32)) (.int (3 : Int32)) (M170.2.1 77 9) v684 (10 : Int32) hG674 F679 (by omega) (by omega) (by omega) (by omega) (by omega) (by omega) (by omega) (by omega) (by omega) (by omega) (by omega) (by omega) (by omega) (by omega) (by omega) j_689 j_690 (by omega) (by omega)
                        · refine to_an (pc := 169) rw_170_169 rfl (to_c (pc := 170) rw_170_170 (x := (3 : Int32)) rfl rfl (s_v (pc := 171) rw_170_171 (dp0 hd (by decide)) (ls0 := [.ref 77, .int (3 : Int32)]) rfl (Nat.le_of_ble_eq_true rfl) (Nat.le_of_ble_eq_true rfl) rfl (to_rc rfl rfl rfl (g_o hG662 rfl)) rfl (to_an (pc := 0) rw_152_0 rfl (to_in (pc := 1) rw_152_1 rfl (s_pI (pc := 2) rw_152_2 hG662 rfl (fun M696 W695 => ?_))))))
                          have hG697 := g_wf hG662 W695 rfl rfl (by decide)
                          have F698 := FR.w F664 W695 (show 77 = 77 ∧ (4 = 4 ∨ 4 = 5 ∨ 7 ≤ 4 ∧ 4 ≤ 10 ∨ 14 ≤ 4 ∧ 4 ≤ 16 ∨ 4 = 25) ∨ 80 ≤ 77 ∧ 77 ≤ 84 ∧ 8 ≤ 4 ∨ 85 ≤ 77 ∧ 77 ≤ 87 ∧ 12 ≤ 4 by decide)
                          refine to_an (pc := 5) rw_152_5 rfl (to_an (pc := 6) rw_152_6 rfl ?_)
                          have c_699 : M696.2.1 77 10 = (M170.2.1 77 10) := (W_n W695 (by decide) (F_n F661 (show ¬ (77 < 0) by decide) rfl))
                          have b_700 := g_b hG166 (a := 77) (i := 10) (lo := 0) (hi := 500) rfl rfl
                          refine tt_gI (pc := 7) rw_152_7 (g_o hG697 rfl) (v := (M170.2.1 77 10)) c_699 (s_pI (pc := 10) rw_152_10 hG697 rfl (fun M702 W701 => ?_))
                          have hG703 := g_wf hG697 W701 rfl rfl (by decide)
                          have F704 := FR.w F698 W701 (show 77 = 77 ∧ (5 = 4 ∨ 5 = 5 ∨ 7 ≤ 5 ∧ 5 ≤ 10 ∨ 14 ≤ 5 ∧ 5 ≤ 16 ∨ 5 = 25) ∨ 80 ≤ 77 ∧ 77 ≤ 84 ∧ 8 ≤ 5 ∨ 85 ≤ 77 ∧ 77 ≤ 87 ∧ 12 ≤ 5 by decide)
                          refine to_c (pc := 13) rw_152_13 (x := (0 : Int32)) rfl rfl (s_r1 (pc := 14) rw_152_14 (A := 0) rfl (by decide) (s_r1 (pc := 174) rw_170_174 (A := 0) rfl (by decide) ?_))
                          have k_705 : (0 : Int32).toInt = 0 := rfl
                          have c_706 : M702.2.1 77 7 = (M170.2.1 77 7) := (W_n W701 (by decide) (W_n W695 (by decide) (F_n F661 (show ¬ (77 < 0) by decide) rfl)))
                          have t_707 : (M702.2.1 77 7).toInt = (M170.2.1 77 7).toInt := congrArg Int32.toInt c_706
                          have c_708 : M702.2.1 77 6 = (M.2.1 77 6) := (W_n W701 (by decide) (W_n W695 (by decide) (F_n F661 (show ¬ (77 < 0) by decide) c_173)))
                          have t_709 : (M702.2.1 77 6).toInt = (M.2.1 77 6).toInt := congrArg Int32.toInt c_708
                          have c_710 : M702.2.1 77 8 = (M170.2.1 77 8) := (W_n W701 (by decide) (W_n W695 (by decide) (F_n F661 (show ¬ (77 < 0) by decide) rfl)))
                          have t_711 : (M702.2.1 77 8).toInt = (M170.2.1 77 8).toInt := congrArg Int32.toInt c_710
                          have j_712 := (FA_f (fun a i z => W_n W701 (tg_320 a i z) rfl) (FA_f (fun a i z => W_n W695 (tg_321 a i z) rfl) (FA_f (tg_307 F661) (FA_f (tg_309 F165) (FA_f (tg_309 F101) (FA_f (tg_310 F85) (FA_f (tg_309 F69) q2)))))))
                          have j_713 := (WR_f (fun a i z => W_n W701 (by /-r77,5-/ omega) rfl) (WR_f (fun a i z => W_n W695 (by /-r77,4-/ omega) rfl) (WR_f (tg_308 F661) (WR_f (tg_311 F165) (WR_f (tg_311 F101) (WR_f (tg_312 F85) (WR_f (tg_311 F69) q3)))))))
                          have c_714 : M702.2.1 77 4 = (3 : Int32) := (W_n W701 (by decide) (W_e W695))
                          have k_715 : (3 : Int32).toInt = 3 := rfl
                          have t_716 : (M702.2.1 77 4).toInt = (3 : Int32).toInt := congrArg Int32.toInt c_714
                          have c_717 : M702.2.1 77 5 = (M170.2.1 77 10) := (W_e W701)
                          have t_718 : (M702.2.1 77 5).toInt = (M170.2.1 77 10).toInt := congrArg Int32.toInt c_717
                          exact h (0 : Int32) M702 hG703 F704 (by decide) (by decide) (by omega) (by omega) (by omega) j_712 j_713 (by omega)
                      · refine to_an (pc := 30) rw_162_30 rfl (to_c (pc := 31) rw_162_31 (x := (2 : Int32)) rfl rfl (s_v (pc := 32) rw_162_32 (dp1 hd (by decide)) (ls0 := [.ref 77, .int (2 : Int32)]) rfl (Nat.le_of_ble_eq_true rfl) (Nat.le_of_ble_eq_true rfl) rfl (to_rc rfl rfl rfl (g_o hG166 rfl)) rfl (to_an (pc := 0) rw_152_0 rfl (to_in (pc := 1) rw_152_1 rfl (s_pI (pc := 2) rw_152_2 hG166 rfl (fun M720 W719 => ?_))))))
                        have hG721 := g_wf hG166 W719 rfl rfl (by decide)
                        have F722 := FR.w F171 W719 (show 77 = 77 ∧ (4 = 4 ∨ 4 = 5 ∨ 7 ≤ 4 ∧ 4 ≤ 10 ∨ 14 ≤ 4 ∧ 4 ≤ 16 ∨ 4 = 25) ∨ 80 ≤ 77 ∧ 77 ≤ 84 ∧ 8 ≤ 4 ∨ 85 ≤ 77 ∧ 77 ≤ 87 ∧ 12 ≤ 4 by decide)
                        refine to_an (pc := 5) rw_152_5 rfl (to_an (pc := 6) rw_152_6 rfl ?_)
                        have c_723 : M720.2.1 77 10 = (M170.2.1 77 10) := (W_n W719 (by decide) rfl)
                        have b_724 := g_b hG166 (a := 77) (i := 10) (lo := 0) (hi := 500) rfl rfl
                        refine tt_gI (pc := 7) rw_152_7 (g_o hG721 rfl) (v := (M170.2.1 77 10)) c_723 (s_pI (pc := 10) rw_152_10 hG721 rfl (fun M726 W725 => ?_))
                        have hG727 := g_wf hG721 W725 rfl rfl (by decide)
                        have F728 := FR.w F722 W725 (show 77 = 77 ∧ (5 = 4 ∨ 5 = 5 ∨ 7 ≤ 5 ∧ 5 ≤ 10 ∨ 14 ≤ 5 ∧ 5 ≤ 16 ∨ 5 = 25) ∨ 80 ≤ 77 ∧ 77 ≤ 84 ∧ 8 ≤ 5 ∨ 85 ≤ 77 ∧ 77 ≤ 87 ∧ 12 ≤ 5 by decide)
                        refine to_c (pc := 13) rw_152_13 (x := (0 : Int32)) rfl rfl (s_r1 (pc := 14) rw_152_14 (A := 0) rfl (by decide) (b_ieq_t (pc := 35) rw_162_35 (A := 0) rfl (by decide) (to_c (pc := 42) rw_162_42 (x := (0 : Int32)) rfl rfl (s_r1 (pc := 43) rw_162_43 (A := 0) rfl (by decide) (b_ine_f (pc := 138) rw_170_138 (A := 0) rfl (by decide) (to_c (pc := 141) rw_170_141 (x := (0 : Int32)) rfl rfl (s_r1 (pc := 142) rw_170_142 (A := 0) rfl (by decide) ?_)))))))
                        have k_729 : (0 : Int32).toInt = 0 := rfl
                        have c_730 : M726.2.1 77 7 = (M170.2.1 77 7) := (W_n W725 (by decide) (W_n W719 (by decide) rfl))
                        have t_731 : (M726.2.1 77 7).toInt = (M170.2.1 77 7).toInt := congrArg Int32.toInt c_730
                        have c_732 : M726.2.1 77 6 = (M.2.1 77 6) := (W_n W725 (by decide) (W_n W719 (by decide) c_173))
                        have t_733 : (M726.2.1 77 6).toInt = (M.2.1 77 6).toInt := congrArg Int32.toInt c_732
                        have c_734 : M726.2.1 77 8 = (M170.2.1 77 8) := (W_n W725 (by decide) (W_n W719 (by decide) rfl))
                        have t_735 : (M726.2.1 77 8).toInt = (M170.2.1 77 8).toInt := congrArg Int32.toInt c_734
                        have j_736 := (FA_f (fun a i z => W_n W725 (tg_320 a i z) rfl) (FA_f (fun a i z => W_n W719 (tg_321 a i z) rfl) (FA_f (tg_309 F165) (FA_f (tg_309 F101) (FA_f (tg_310 F85) (FA_f (tg_309 F69) q2))))))
                        have j_737 := (WR_f (fun a i z => W_n W725 (by /-r77,5-/ omega) rfl) (WR_f (fun a i z => W_n W719 (by /-r77,4-/ omega) rfl) (WR_f (tg_311 F165) (WR_f (tg_311 F101) (WR_f (tg_312 F85) (WR_f (tg_311 F69) q3))))))
                        have c_738 : M726.2.1 77 4 = (2 : Int32) := (W_n W725 (by decide) (W_e W719))
                        have k_739 : (2 : Int32).toInt = 2 := rfl
                        have t_740 : (M726.2.1 77 4).toInt = (2 : Int32).toInt := congrArg Int32.toInt c_738
                        have c_741 : M726.2.1 77 5 = (M170.2.1 77 10) := (W_e W725)
                        have t_742 : (M726.2.1 77 5).toInt = (M170.2.1 77 10).toInt := congrArg Int32.toInt c_741
                        exact h (0 : Int32) M726 hG727 F728 (by decide) (by decide) (by omega) (by omega) (by omega) j_736 j_737 (by omega)
                  · refine to_an (pc := 8) rw_162_8 rfl (to_c (pc := 9) rw_162_9 (x := (1 : Int32)) rfl rfl (s_v (pc := 10) rw_162_10 (dp1 hd (by decide)) (ls0 := [.ref 77, .int (1 : Int32)]) rfl (Nat.le_of_ble_eq_true rfl) (Nat.le_of_ble_eq_true rfl) rfl (to_rc rfl rfl rfl (g_o hG166 rfl)) rfl (to_an (pc := 0) rw_152_0 rfl (to_in (pc := 1) rw_152_1 rfl (s_pI (pc := 2) rw_152_2 hG166 rfl (fun M744 W743 => ?_))))))
                    have hG745 := g_wf hG166 W743 rfl rfl (by decide)
                    have F746 := FR.w F171 W743 (show 77 = 77 ∧ (4 = 4 ∨ 4 = 5 ∨ 7 ≤ 4 ∧ 4 ≤ 10 ∨ 14 ≤ 4 ∧ 4 ≤ 16 ∨ 4 = 25) ∨ 80 ≤ 77 ∧ 77 ≤ 84 ∧ 8 ≤ 4 ∨ 85 ≤ 77 ∧ 77 ≤ 87 ∧ 12 ≤ 4 by decide)
                    refine to_an (pc := 5) rw_152_5 rfl (to_an (pc := 6) rw_152_6 rfl ?_)
                    have c_747 : M744.2.1 77 10 = (M170.2.1 77 10) := (W_n W743 (by decide) rfl)
                    have b_748 := g_b hG166 (a := 77) (i := 10) (lo := 0) (hi := 500) rfl rfl
                    refine tt_gI (pc := 7) rw_152_7 (g_o hG745 rfl) (v := (M170.2.1 77 10)) c_747 (s_pI (pc := 10) rw_152_10 hG745 rfl (fun M750 W749 => ?_))
                    have hG751 := g_wf hG745 W749 rfl rfl (by decide)
                    have F752 := FR.w F746 W749 (show 77 = 77 ∧ (5 = 4 ∨ 5 = 5 ∨ 7 ≤ 5 ∧ 5 ≤ 10 ∨ 14 ≤ 5 ∧ 5 ≤ 16 ∨ 5 = 25) ∨ 80 ≤ 77 ∧ 77 ≤ 84 ∧ 8 ≤ 5 ∨ 85 ≤ 77 ∧ 77 ≤ 87 ∧ 12 ≤ 5 by decide)
                    refine to_c (pc := 13) rw_152_13 (x := (0 : Int32)) rfl rfl (s_r1 (pc := 14) rw_152_14 (A := 0) rfl (by decide) (s_r1 (pc := 13) rw_162_13 (A := 0) rfl (by decide) (b_ine_f (pc := 138) rw_170_138 (A := 0) rfl (by decide) (to_c (pc := 141) rw_170_141 (x := (0 : Int32)) rfl rfl (s_r1 (pc := 142) rw_170_142 (A := 0) rfl (by decide) ?_)))))
                    have k_753 : (0 : Int32).toInt = 0 := rfl
                    have c_754 : M750.2.1 77 7 = (M170.2.1 77 7) := (W_n W749 (by decide) (W_n W743 (by decide) rfl))
                    have t_755 : (M750.2.1 77 7).toInt = (M170.2.1 77 7).toInt := congrArg Int32.toInt c_754
                    have c_756 : M750.2.1 77 6 = (M.2.1 77 6) := (W_n W749 (by decide) (W_n W743 (by decide) c_173))
                    have t_757 : (M750.2.1 77 6).toInt = (M.2.1 77 6).toInt := congrArg Int32.toInt c_756
                    have c_758 : M750.2.1 77 8 = (M170.2.1 77 8) := (W_n W749 (by decide) (W_n W743 (by decide) rfl))
                    have t_759 : (M750.2.1 77 8).toInt = (M170.2.1 77 8).toInt := congrArg Int32.toInt c_758
                    have j_760 := (FA_f (fun a i z => W_n W749 (tg_320 a i z) rfl) (FA_f (fun a i z => W_n W743 (tg_321 a i z) rfl) (FA_f (tg_309 F165) (FA_f (tg_309 F101) (FA_f (tg_310 F85) (FA_f (tg_309 F69) q2))))))
                    have j_761 := (WR_f (fun a i z => W_n W749 (by /-r77,5-/ omega) rfl) (WR_f (fun a i z => W_n W743 (by /-r77,4-/ omega) rfl) (WR_f (tg_311 F165) (WR_f (tg_311 F101) (WR_f (tg_312 F85) (WR_f (tg_311 F69) q3))))))
                    have c_762 : M750.2.1 77 4 = (1 : Int32) := (W_n W749 (by decide) (W_e W743))
                    have k_763 : (1 : Int32).toInt = 1 := rfl
                    have t_764 : (M750.2.1 77 4).toInt = (1 : Int32).toInt := congrArg Int32.toInt c_762
                    have c_765 : M750.2.1 77 5 = (M170.2.1 77 10) := (W_e W749)
                    have t_766 : (M750.2.1 77 5).toInt = (M170.2.1 77 10).toInt := congrArg Int32.toInt c_765
                    exact h (0 : Int32) M750 hG751 F752 (by decide) (by decide) (by omega) (by omega) (by omega) j_760 j_761 (by omega)
              · refine to_c (pc := 96) rw_170_96 (x := (1 : Int32)) rfl rfl (to_go (pc := 97) rw_170_97 (to_is (pc := 101) rw_170_101 (ls2 := [.ref 77, .int v94, .int (M74.2.1 77 9), .int v163, .int (1 : Int32), .null, .null, .null, .null]) rfl rfl (to_in (pc := 103) rw_170_103 rfl (to_c (pc := 104) rw_170_104 (x := (1 : Int32)) rfl rfl (b_cne_t (pc := 105) rw_170_105 (A := v163.toInt) (B := 1) rfl rfl (by omega) (to_in (pc := 112) rw_170_112 rfl (to_c (pc := 113) rw_170_113 (x := (2 : Int32)) rfl rfl (b_cne_t (pc := 114) rw_170_114 (A := v163.toInt) (B := 2) rfl rfl (by omega) (to_c (pc := 121) rw_170_121 (x := (0 : Int32)) rfl rfl (to_is (pc := 122) rw_170_122 (ls2 := [.ref 77, .int v94, .int (M74.2.1 77 9), .int v163, .int (1 : Int32), .int (0 : Int32), .null, .null, .null]) rfl rfl (to_an (pc := 124) rw_170_124 rfl ?_)))))))))))
                refine to_c (pc := 125) rw_170_125 (x := (0 : Int32)) rfl rfl (to_an (pc := 126) rw_170_126 rfl ?_)
                have c_767 : M170.2.1 77 14 = (M.2.1 77 14) := (F_n F165 (show ¬ (77 = 77 ∧ 7 ≤ 14 ∧ 14 ≤ 10) by decide) (F_n F101 (show ¬ (77 = 77 ∧ 7 ≤ 14 ∧ 14 ≤ 10) by decide) (F_n F85 (show ¬ (77 = 77 ∧ (14 = 4 ∨ 14 = 5)) by decide) (F_n F69 (show ¬ (77 = 77 ∧ 7 ≤ 14 ∧ 14 ≤ 10) by decide) rfl))))
                have b_768 := g_b hG (a := 77) (i := 14) (lo := 10) (hi := 60) rfl rfl
                refine tt_gI (pc := 127) rw_170_127 (g_o hG166 rfl) (v := (M.2.1 77 14)) c_767 (to_c (pc := 130) rw_170_130 (x := (1 : Int32)) rfl rfl (s_sub (pc := 131) rw_170_131 (A := (M.2.1 77 14).toInt) (B := 1) rfl rfl (by omega) (fun v769 e770 => to_i (pc := 132) rw_170_132 rfl (s_sub (pc := 134) rw_170_134 (A := v769.toInt) (B := 0) rfl rfl (by omega) (fun v771 e772 => s_v (pc := 135) rw_170_135 (dp0 hd (by decide)) (ls0 := [.ref 77, .int (0 : Int32), .int v771]) rfl (Nat.le_of_ble_eq_true rfl) (Nat.le_of_ble_eq_true rfl) rfl (to_rc rfl rfl rfl (g_o hG166 rfl)) rfl (to_an (pc := 0) rw_162_0 rfl (tt_gI (pc := 1) rw_162_1 (g_o hG166 rfl) (v := (M170.2.1 77 8)) rfl (to_c (pc := 4) rw_162_4 (x := (3 : Int32)) rfl rfl (b_ceq (pc := 5) rw_162_5 (A := (M170.2.1 77 8).toInt) (B := 3) rfl rfl (fun h773 => ?_) (fun h773 => ?_))))))))))
                · refine to_an (pc := 14) rw_162_14 rfl (tt_gI (pc := 15) rw_162_15 (g_o hG166 rfl) (v := (M170.2.1 77 9)) rfl (to_in (pc := 18) rw_162_18 rfl (b_clt (pc := 19) rw_162_19 (A := (M170.2.1 77 9).toInt) (B := 0) rfl rfl (fun h774 => ?_) (fun h774 => ?_))))
                  · refine to_an (pc := 30) rw_162_30 rfl (to_c (pc := 31) rw_162_31 (x := (2 : Int32)) rfl rfl (s_v (pc := 32) rw_162_32 (dp1 hd (by decide)) (ls0 := [.ref 77, .int (2 : Int32)]) rfl (Nat.le_of_ble_eq_true rfl) (Nat.le_of_ble_eq_true rfl) rfl (to_rc rfl rfl rfl (g_o hG166 rfl)) rfl (to_an (pc := 0) rw_152_0 rfl (to_in (pc := 1) rw_152_1 rfl (s_pI (pc := 2) rw_152_2 hG166 rfl (fun M776 W775 => ?_))))))
                    have hG777 := g_wf hG166 W775 rfl rfl (by decide)
                    have F778 := FR.w F171 W775 (show 77 = 77 ∧ (4 = 4 ∨ 4 = 5 ∨ 7 ≤ 4 ∧ 4 ≤ 10 ∨ 14 ≤ 4 ∧ 4 ≤ 16 ∨ 4 = 25) ∨ 80 ≤ 77 ∧ 77 ≤ 84 ∧ 8 ≤ 4 ∨ 85 ≤ 77 ∧ 77 ≤ 87 ∧ 12 ≤ 4 by decide)
                    refine to_an (pc := 5) rw_152_5 rfl (to_an (pc := 6) rw_152_6 rfl ?_)
                    have c_779 : M776.2.1 77 10 = (M170.2.1 77 10) := (W_n W775 (by decide) rfl)
                    have b_780 := g_b hG166 (a := 77) (i := 10) (lo := 0) (hi := 500) rfl rfl
                    refine tt_gI (pc := 7) rw_152_7 (g_o hG777 rfl) (v := (M170.2.1 77 10)) c_779 (s_pI (pc := 10) rw_152_10 hG777 rfl (fun M782 W781 => ?_))
                    have hG783 := g_wf hG777 W781 rfl rfl (by decide)
                    have F784 := FR.w F778 W781 (show 77 = 77 ∧ (5 = 4 ∨ 5 = 5 ∨ 7 ≤ 5 ∧ 5 ≤ 10 ∨ 14 ≤ 5 ∧ 5 ≤ 16 ∨ 5 = 25) ∨ 80 ≤ 77 ∧ 77 ≤ 84 ∧ 8 ≤ 5 ∨ 85 ≤ 77 ∧ 77 ≤ 87 ∧ 12 ≤ 5 by decide)
                    refine to_c (pc := 13) rw_152_13 (x := (0 : Int32)) rfl rfl (s_r1 (pc := 14) rw_152_14 (A := 0) rfl (by decide) (b_ieq_t (pc := 35) rw_162_35 (A := 0) rfl (by decide) (to_c (pc := 42) rw_162_42 (x := (0 : Int32)) rfl rfl (s_r1 (pc := 43) rw_162_43 (A := 0) rfl (by decide) (b_ine_f (pc := 138) rw_170_138 (A := 0) rfl (by decide) (to_c (pc := 141) rw_170_141 (x := (0 : Int32)) rfl rfl (s_r1 (pc := 142) rw_170_142 (A := 0) rfl (by decide) ?_)))))))
                    have k_785 : (0 : Int32).toInt = 0 := rfl
                    have c_786 : M782.2.1 77 7 = (M170.2.1 77 7) := (W_n W781 (by decide) (W_n W775 (by decide) rfl))
                    have t_787 : (M782.2.1 77 7).toInt = (M170.2.1 77 7).toInt := congrArg Int32.toInt c_786
                    have c_788 : M782.2.1 77 6 = (M.2.1 77 6) := (W_n W781 (by decide) (W_n W775 (by decide) c_173))
                    have t_789 : (M782.2.1 77 6).toInt = (M.2.1 77 6).toInt := congrArg Int32.toInt c_788
                    have c_790 : M782.2.1 77 8 = (M170.2.1 77 8) := (W_n W781 (by decide) (W_n W775 (by decide) rfl))
                    have t_791 : (M782.2.1 77 8).toInt = (M170.2.1 77 8).toInt := congrArg Int32.toInt c_790
                    have j_792 := (FA_f (fun a i z => W_n W781 (tg_320 a i z) rfl) (FA_f (fun a i z => W_n W775 (tg_321 a i z) rfl) (FA_f (tg_309 F165) (FA_f (tg_309 F101) (FA_f (tg_310 F85) (FA_f (tg_309 F69) q2))))))
                    have j_793 := (WR_f (fun a i z => W_n W781 (by /-r77,5-/ omega) rfl) (WR_f (fun a i z => W_n W775 (by /-r77,4-/ omega) rfl) (WR_f (tg_311 F165) (WR_f (tg_311 F101) (WR_f (tg_312 F85) (WR_f (tg_311 F69) q3))))))
                    have c_794 : M782.2.1 77 4 = (2 : Int32) := (W_n W781 (by decide) (W_e W775))
                    have k_795 : (2 : Int32).toInt = 2 := rfl
                    have t_796 : (M782.2.1 77 4).toInt = (2 : Int32).toInt := congrArg Int32.toInt c_794
                    have c_797 : M782.2.1 77 5 = (M170.2.1 77 10) := (W_e W781)
                    have t_798 : (M782.2.1 77 5).toInt = (M170.2.1 77 10).toInt := congrArg Int32.toInt c_797
                    exact h (0 : Int32) M782 hG783 F784 (by decide) (by decide) (by omega) (by omega) (by omega) j_792 j_793 (by omega)
                  · refine to_an (pc := 22) rw_162_22 rfl (tt_gI (pc := 23) rw_162_23 (g_o hG166 rfl) (v := (M170.2.1 77 9)) rfl (to_in (pc := 26) rw_162_26 rfl (b_cle (pc := 27) rw_162_27 (A := (M170.2.1 77 9).toInt) (B := v771.toInt) rfl rfl (fun h799 => ?_) (fun h799 => ?_))))
                    · refine to_c (pc := 38) rw_162_38 (x := (1 : Int32)) rfl rfl (to_go (pc := 39) rw_162_39 (s_r1 (pc := 43) rw_162_43 (A := 1) rfl (by decide) (b_ine_t (pc := 138) rw_170_138 (A := 1) rfl (by decide) (to_an (pc := 143) rw_170_143 rfl (tt_gI (pc := 144) rw_170_144 (g_o hG166 rfl) (v := (M170.2.1 77 9)) rfl (to_is (pc := 147) rw_170_147 (ls2 := [.ref 77, .int v94, .int (M74.2.1 77 9), .int v163, .int (1 : Int32), .int (0 : Int32), .int (M170.2.1 77 9), .null, .null]) rfl rfl (to_an (pc := 149) rw_170_149 rfl (s_gJ (pc := 150) rw_170_150 hG166 rfl (fun l800 => to_i (pc := 153) rw_170_153 rfl (to_i (pc := 155) rw_170_155 rfl (to_i (pc := 157) rw_170_157 rfl ?_)))))))))))
                      refine s_add (pc := 159) rw_170_159 (A := (M170.2.1 77 9).toInt) (B := 0) rfl rfl (by omega) (fun v801 e802 => s_s (pc := 160) rw_170_160 (dp0 hd (by decide)) (ls0 := [.int (M170.2.1 77 9), .int v801, .null, .null, .null]) rfl (Nat.le_of_ble_eq_true rfl) (Nat.le_of_ble_eq_true rfl) rfl (to_rcs rfl rfl) rfl (C_168 hX (dp1 hd (by decide)) hG166 (by omega) (by omega) (by omega) (a := (M170.2.1 77 9)) (b := v801) (fun r803 M806 hG805 F804 => ?_)))
                      have F807 := FR.c F171 F804 tg_316
                      refine s_anyL (pc := 163) rw_170_163 (fun _ _ => rfl) (fun l808 => s_cl (pc := 164) rw_170_164 rfl (fun l809 => s_lcmp (pc := 165) rw_170_165 (fun v810 => b_ieq (pc := 166) rw_170_166 (A := v810.toInt) rfl (fun h811 => ?_) (fun h811 => ?_))))
                      · refine to_an (pc := 175) rw_170_175 rfl (s_v (pc := 176) rw_170_176 (dp0 hd (by decide)) (ls0 := [.ref 77]) rfl (Nat.le_of_ble_eq_true rfl) (Nat.le_of_ble_eq_true rfl) rfl (to_rc rfl rfl rfl (g_o hG805 rfl)) rfl ?_)
                        have c_812 : M806.2.1 77 7 = (M170.2.1 77 7) := (F_n F804 (show ¬ (77 < 0) by decide) rfl)
                        have t_813 : (M806.2.1 77 7).toInt = (M170.2.1 77 7).toInt := congrArg Int32.toInt c_812
                        have c_814 : M806.2.1 77 6 = (M.2.1 77 6) := (F_n F804 (show ¬ (77 < 0) by decide) c_173)
                        have t_815 : (M806.2.1 77 6).toInt = (M.2.1 77 6).toInt := congrArg Int32.toInt c_814
                        refine C_156 hX (dp1 hd (by decide)) hG805 (by omega)  (fun M821 hG817 F816 p_818 p_819 p_820 => ?_)
                        have F822 := FR.c F807 F816 tg_79
                        have b_823 := g_b hG817 (a := 77) (i := 7) (lo := 0) (hi := 500) rfl rfl
                        have c_824 : M821.2.1 77 6 = (M.2.1 77 6) := (F_n F816 (show ¬ (77 = 77 ∧ 7 ≤ 6 ∧ 6 ≤ 10) by decide) c_814)
                        have t_825 : (M821.2.1 77 6).toInt = (M.2.1 77 6).toInt := congrArg Int32.toInt c_824
                        have b_826 := g_b hG817 (a := 77) (i := 8) (lo := 0) (hi := 5) rfl rfl
                        refine to_i (pc := 179) rw_170_179 rfl (to_i (pc := 181) rw_170_181 rfl (s_add (pc := 183) rw_170_183 (A := (M170.2.1 77 9).toInt) (B := 0) rfl rfl (by omega) (fun v827 e828 => to_is (pc := 184) rw_170_184 (ls2 := [.ref 77, .int v94, .int (M74.2.1 77 9), .int v163, .int (1 : Int32), .int (0 : Int32), .int (M170.2.1 77 9), .int v827, .null]) rfl rfl (to_c (pc := 186) rw_170_186 (x := (10 : Int32)) rfl rfl (to_is (pc := 188) rw_170_188 (ls2 := [.ref 77, .int v94, .int (M74.2.1 77 9), .int v163, .int (1 : Int32), .int (0 : Int32), .int (M170.2.1 77 9), .int v827, .int (10 : Int32)]) rfl rfl (to_i (pc := 190) rw_170_190 rfl (b_ieq_f (pc := 192) rw_170_192 (A := 1) rfl (by decide) (to_an (pc := 195) rw_170_195 rfl (to_in (pc := 196) rw_170_196 rfl (b_ine_t (pc := 197) rw_170_197 (A := v163.toInt) rfl (by omega) (to_i (pc := 207) rw_170_207 rfl ?_)))))))))))
                        refine to_an (pc := 209) rw_170_209 rfl ?_
                        have c_829 : M821.2.1 77 14 = (M.2.1 77 14) := (F_n F816 (show ¬ (77 = 77 ∧ 7 ≤ 14 ∧ 14 ≤ 10) by decide) (F_n F804 (show ¬ (77 < 0) by decide) c_767))
                        refine tt_gI (pc := 210) rw_170_210 (g_o hG817 rfl) (v := (M.2.1 77 14)) c_829 (to_c (pc := 213) rw_170_213 (x := (1 : Int32)) rfl rfl (s_sub (pc := 214) rw_170_214 (A := (M.2.1 77 14).toInt) (B := 1) rfl rfl (by omega) (fun v830 e831 => s_v (pc := 215) rw_170_215 (dp0 hd (by decide)) (ls0 := [.ref 77, .int (M170.2.1 77 9), .int v830]) rfl (Nat.le_of_ble_eq_true rfl) (Nat.le_of_ble_eq_true rfl) rfl (to_rc rfl rfl rfl (g_o hG817 rfl)) rfl (to_an (pc := 0) rw_162_0 rfl (tt_gI (pc := 1) rw_162_1 (g_o hG817 rfl) (v := (M821.2.1 77 8)) rfl (to_c (pc := 4) rw_162_4 (x := (3 : Int32)) rfl rfl (b_ceq (pc := 5) rw_162_5 (A := (M821.2.1 77 8).toInt) (B := 3) rfl rfl (fun h832 => ?_) (fun h832 => ?_))))))))
                        · refine to_an (pc := 14) rw_162_14 rfl (tt_gI (pc := 15) rw_162_15 (g_o hG817 rfl) (v := (M821.2.1 77 9)) rfl (to_in (pc := 18) rw_162_18 rfl (b_clt (pc := 19) rw_162_19 (A := (M821.2.1 77 9).toInt) (B := (M170.2.1 77 9).toInt) rfl rfl (fun h833 => ?_) (fun h833 => ?_))))
                          · refine to_an (pc := 30) rw_162_30 rfl (to_c (pc := 31) rw_162_31 (x := (2 : Int32)) rfl rfl (s_v (pc := 32) rw_162_32 (dp1 hd (by decide)) (ls0 := [.ref 77, .int (2 : Int32)]) rfl (Nat.le_of_ble_eq_true rfl) (Nat.le_of_ble_eq_true rfl) rfl (to_rc rfl rfl rfl (g_o hG817 rfl)) rfl (to_an (pc := 0) rw_152_0 rfl (to_in (pc := 1) rw_152_1 rfl (s_pI (pc := 2) rw_152_2 hG817 rfl (fun M835 W834 => ?_))))))
                            have hG836 := g_wf hG817 W834 rfl rfl (by decide)
                            have F837 := FR.w F822 W834 (show 77 = 77 ∧ (4 = 4 ∨ 4 = 5 ∨ 7 ≤ 4 ∧ 4 ≤ 10 ∨ 14 ≤ 4 ∧ 4 ≤ 16 ∨ 4 = 25) ∨ 80 ≤ 77 ∧ 77 ≤ 84 ∧ 8 ≤ 4 ∨ 85 ≤ 77 ∧ 77 ≤ 87 ∧ 12 ≤ 4 by decide)
                            refine to_an (pc := 5) rw_152_5 rfl (to_an (pc := 6) rw_152_6 rfl ?_)
                            have c_838 : M835.2.1 77 10 = (M821.2.1 77 10) := (W_n W834 (by decide) rfl)
                            have b_839 := g_b hG817 (a := 77) (i := 10) (lo := 0) (hi := 500) rfl rfl
                            refine tt_gI (pc := 7) rw_152_7 (g_o hG836 rfl) (v := (M821.2.1 77 10)) c_838 (s_pI (pc := 10) rw_152_10 hG836 rfl (fun M841 W840 => ?_))
                            have hG842 := g_wf hG836 W840 rfl rfl (by decide)
                            have F843 := FR.w F837 W840 (show 77 = 77 ∧ (5 = 4 ∨ 5 = 5 ∨ 7 ≤ 5 ∧ 5 ≤ 10 ∨ 14 ≤ 5 ∧ 5 ≤ 16 ∨ 5 = 25) ∨ 80 ≤ 77 ∧ 77 ≤ 84 ∧ 8 ≤ 5 ∨ 85 ≤ 77 ∧ 77 ≤ 87 ∧ 12 ≤ 5 by decide)
                            refine to_c (pc := 13) rw_152_13 (x := (0 : Int32)) rfl rfl (s_r1 (pc := 14) rw_152_14 (A := 0) rfl (by decide) (b_ieq_t (pc := 35) rw_162_35 (A := 0) rfl (by decide) (to_c (pc := 42) rw_162_42 (x := (0 : Int32)) rfl rfl (s_r1 (pc := 43) rw_162_43 (A := 0) rfl (by decide) (b_ine_f (pc := 218) rw_170_218 (A := 0) rfl (by decide) (to_c (pc := 221) rw_170_221 (x := (0 : Int32)) rfl rfl (s_r1 (pc := 222) rw_170_222 (A := 0) rfl (by decide) ?_)))))))
                            have k_844 : (0 : Int32).toInt = 0 := rfl
                            have c_845 : M841.2.1 77 7 = (M821.2.1 77 7) := (W_n W840 (by decide) (W_n W834 (by decide) rfl))
                            have t_846 : (M841.2.1 77 7).toInt = (M821.2.1 77 7).toInt := congrArg Int32.toInt c_845
                            have c_847 : M841.2.1 77 6 = (M.2.1 77 6) := (W_n W840 (by decide) (W_n W834 (by decide) c_824))
                            have t_848 : (M841.2.1 77 6).toInt = (M.2.1 77 6).toInt := congrArg Int32.toInt c_847
                            have c_849 : M841.2.1 77 8 = (M821.2.1 77 8) := (W_n W840 (by decide) (W_n W834 (by decide) rfl))
                            have t_850 : (M841.2.1 77 8).toInt = (M821.2.1 77 8).toInt := congrArg Int32.toInt c_849
                            have j_851 := (FA_f (fun a i z => W_n W840 (tg_320 a i z) rfl) (FA_f (fun a i z => W_n W834 (tg_321 a i z) rfl) (FA_f (tg_309 F816) (FA_f (tg_307 F804) (FA_f (tg_309 F165) (FA_f (tg_309 F101) (FA_f (tg_310 F85) (FA_f (tg_309 F69) q2))))))))
                            have j_852 := (WR_f (fun a i z => W_n W840 (by /-r77,5-/ omega) rfl) (WR_f (fun a i z => W_n W834 (by /-r77,4-/ omega) rfl) (WR_f (tg_311 F816) (WR_f (tg_308 F804) (WR_f (tg_311 F165) (WR_f (tg_311 F101) (WR_f (tg_312 F85) (WR_f (tg_311 F69) q3))))))))
                            have c_853 : M841.2.1 77 4 = (2 : Int32) := (W_n W840 (by decide) (W_e W834))
                            have k_854 : (2 : Int32).toInt = 2 := rfl
                            have t_855 : (M841.2.1 77 4).toInt = (2 : Int32).toInt := congrArg Int32.toInt c_853
                            have c_856 : M841.2.1 77 5 = (M821.2.1 77 10) := (W_e W840)
                            have t_857 : (M841.2.1 77 5).toInt = (M821.2.1 77 10).toInt := congrArg Int32.toInt c_856
                            exact h (0 : Int32) M841 hG842 F843 (by decide) (by decide) (by omega) (by omega) (by omega) j_851 j_852 (by omega)
                          · refine to_an (pc := 22) rw_162_22 rfl (tt_gI (pc := 23) rw_162_23 (g_o hG817 rfl) (v := (M821.2.1 77 9)) rfl (to_in (pc := 26) rw_162_26 rfl (b_cle (pc := 27) rw_162_27 (A := (M821.2.1 77 9).toInt) (B := v830.toInt) rfl rfl (fun h858 => ?_) (fun h858 => ?_))))
                            · refine to_c (pc := 38) rw_162_38 (x := (1 : Int32)) rfl rfl (to_go (pc := 39) rw_162_39 (s_r1 (pc := 43) rw_162_43 (A := 1) rfl (by decide) (b_ine_t (pc := 218) rw_170_218 (A := 1) rfl (by decide) (to_an (pc := 223) rw_170_223 rfl (tt_gI (pc := 224) rw_170_224 (g_o hG817 rfl) (v := (M821.2.1 77 9)) rfl (to_is (pc := 227) rw_170_227 (ls2 := [.ref 77, .int v94, .int (M74.2.1 77 9), .int v163, .int (1 : Int32), .int (0 : Int32), .int (M170.2.1 77 9), .int (M821.2.1 77 9), .int (10 : Int32)]) rfl rfl (to_i (pc := 229) rw_170_229 rfl (to_i (pc := 231) rw_170_231 rfl (s_sub (pc := 233) rw_170_233 (A := (M821.2.1 77 9).toInt) (B := (M170.2.1 77 9).toInt) rfl rfl (by omega) (fun v859 e860 => to_c (pc := 234) rw_170_234 (x := (23 : Int32)) rfl rfl (b_cle (pc := 236) rw_170_236 (A := v859.toInt) (B := 23) rfl rfl (fun h861 => ?_) (fun h861 => ?_))))))))))))
                              · refine to_an (pc := 245) rw_170_245 rfl (s_gJ (pc := 246) rw_170_246 hG817 rfl (fun l862 => to_i (pc := 249) rw_170_249 rfl (to_i (pc := 251) rw_170_251 rfl (s_s (pc := 253) rw_170_253 (dp0 hd (by decide)) (ls0 := [.int (M170.2.1 77 9), .int (M821.2.1 77 9), .null, .null, .null]) rfl (Nat.le_of_ble_eq_true rfl) (Nat.le_of_ble_eq_true rfl) rfl (to_rcs rfl rfl) rfl (C_168 hX (dp1 hd (by decide)) hG817 (by omega) (by omega) (by omega) (a := (M170.2.1 77 9)) (b := (M821.2.1 77 9)) (fun r863 M866 hG865 F864 => ?_))))))
                                have F867 := FR.c F822 F864 tg_316
                                refine s_anyL (pc := 256) rw_170_256 (fun _ _ => rfl) (fun l868 => s_cl (pc := 257) rw_170_257 rfl (fun l869 => s_lcmp (pc := 258) rw_170_258 (fun v870 => b_ieq (pc := 259) rw_170_259 (A := v870.toInt) rfl (fun h871 => ?_) (fun h871 => ?_))))
                                · refine to_an (pc := 268) rw_170_268 rfl (s_v (pc := 269) rw_170_269 (dp0 hd (by decide)) (ls0 := [.ref 77]) rfl (Nat.le_of_ble_eq_true rfl) (Nat.le_of_ble_eq_true rfl) rfl (to_rc rfl rfl rfl (g_o hG865 rfl)) rfl ?_)
                                  have c_872 : M866.2.1 77 7 = (M821.2.1 77 7) := (F_n F864 (show ¬ (77 < 0) by decide) rfl)
                                  have t_873 : (M866.2.1 77 7).toInt = (M821.2.1 77 7).toInt := congrArg Int32.toInt c_872
                                  have c_874 : M866.2.1 77 6 = (M.2.1 77 6) := (F_n F864 (show ¬ (77 < 0) by decide) c_824)
                                  have t_875 : (M866.2.1 77 6).toInt = (M.2.1 77 6).toInt := congrArg Int32.toInt c_874
                                  refine C_156 hX (dp1 hd (by decide)) hG865 (by omega)  (fun M881 hG877 F876 p_878 p_879 p_880 => ?_)
                                  have F882 := FR.c F867 F876 tg_79
                                  have b_883 := g_b hG877 (a := 77) (i := 7) (lo := 0) (hi := 500) rfl rfl
                                  have c_884 : M881.2.1 77 6 = (M.2.1 77 6) := (F_n F876 (show ¬ (77 = 77 ∧ 7 ≤ 6 ∧ 6 ≤ 10) by decide) c_874)
                                  have t_885 : (M881.2.1 77 6).toInt = (M.2.1 77 6).toInt := congrArg Int32.toInt c_884
                                  have b_886 := g_b hG877 (a := 77) (i := 8) (lo := 0) (hi := 5) rfl rfl
                                  refine to_i (pc := 272) rw_170_272 rfl (to_i (pc := 274) rw_170_274 rfl (s_sub (pc := 276) rw_170_276 (A := (M821.2.1 77 9).toInt) (B := (M170.2.1 77 9).toInt) rfl rfl (by omega) (fun v887 e888 => to_c (pc := 277) rw_170_277 (x := (1 : Int32)) rfl rfl (s_add (pc := 278) rw_170_278 (A := v887.toInt) (B := 1) rfl rfl (by omega) (fun v889 e890 => to_is (pc := 279) rw_170_279 (ls2 := [.ref 77, .int v94, .int (M74.2.1 77 9), .int v163, .int (1 : Int32), .int (0 : Int32), .int (M170.2.1 77 9), .int (M821.2.1 77 9), .int v889]) rfl rfl (to_in (pc := 281) rw_170_281 rfl (to_c (pc := 282) rw_170_282 (x := (3 : Int32)) rfl rfl (b_cne_f (pc := 283) rw_170_283 (A := v163.toInt) (B := 3) rfl rfl (by omega) (to_an (pc := 286) rw_170_286 rfl (to_c (pc := 287) rw_170_287 (x := (1 : Int32)) rfl rfl (to_i (pc := 288) rw_170_288 rfl ?_)))))))))))
                                  refine to_c (pc := 290) rw_170_290 (x := (4 : Int32)) rfl rfl (b_cge (pc := 291) rw_170_291 (A := v889.toInt) (B := 4) rfl rfl (fun h891 => ?_) (fun h891 => ?_))
                                  · refine to_c (pc := 299) rw_170_299 (x := (4 : Int32)) rfl rfl (s_v (pc := 300) rw_170_300 (dp0 hd (by decide)) (ls0 := [.ref 77, .int (1 : Int32), .int (4 : Int32)]) rfl (Nat.le_of_ble_eq_true rfl) (Nat.le_of_ble_eq_true rfl) rfl (to_rc rfl rfl rfl (g_o hG877 rfl)) rfl (to_an (pc := 0) rw_162_0 rfl (tt_gI (pc := 1) rw_162_1 (g_o hG877 rfl) (v := (M881.2.1 77 8)) rfl (to_c (pc := 4) rw_162_4 (x := (3 : Int32)) rfl rfl (b_ceq (pc := 5) rw_162_5 (A := (M881.2.1 77 8).toInt) (B := 3) rfl rfl (fun h892 => ?_) (fun h892 => ?_))))))
                                    · refine to_an (pc := 14) rw_162_14 rfl (tt_gI (pc := 15) rw_162_15 (g_o hG877 rfl) (v := (M881.2.1 77 9)) rfl (to_in (pc := 18) rw_162_18 rfl (b_clt (pc := 19) rw_162_19 (A := (M881.2.1 77 9).toInt) (B := 1) rfl rfl (fun h893 => ?_) (fun h893 => ?_))))
                                      · refine to_an (pc := 30) rw_162_30 rfl (to_c (pc := 31) rw_162_31 (x := (2 : Int32)) rfl rfl (s_v (pc := 32) rw_162_32 (dp1 hd (by decide)) (ls0 := [.ref 77, .int (2 : Int32)]) rfl (Nat.le_of_ble_eq_true rfl) (Nat.le_of_ble_eq_true rfl) rfl (to_rc rfl rfl rfl (g_o hG877 rfl)) rfl (to_an (pc := 0) rw_152_0 rfl (to_in (pc := 1) rw_152_1 rfl (s_pI (pc := 2) rw_152_2 hG877 rfl (fun M895 W894 => ?_))))))
                                        have hG896 := g_wf hG877 W894 rfl rfl (by decide)
                                        have F897 := FR.w F882 W894 (show 77 = 77 ∧ (4 = 4 ∨ 4 = 5 ∨ 7 ≤ 4 ∧ 4 ≤ 10 ∨ 14 ≤ 4 ∧ 4 ≤ 16 ∨ 4 = 25) ∨ 80 ≤ 77 ∧ 77 ≤ 84 ∧ 8 ≤ 4 ∨ 85 ≤ 77 ∧ 77 ≤ 87 ∧ 12 ≤ 4 by decide)
                                        refine to_an (pc := 5) rw_152_5 rfl (to_an (pc := 6) rw_152_6 rfl ?_)
                                        have c_898 : M895.2.1 77 10 = (M881.2.1 77 10) := (W_n W894 (by decide) rfl)
                                        have b_899 := g_b hG877 (a := 77) (i := 10) (lo := 0) (hi := 500) rfl rfl
                                        refine tt_gI (pc := 7) rw_152_7 (g_o hG896 rfl) (v := (M881.2.1 77 10)) c_898 (s_pI (pc := 10) rw_152_10 hG896 rfl (fun M901 W900 => ?_))
                                        have hG902 := g_wf hG896 W900 rfl rfl (by decide)
                                        have F903 := FR.w F897 W900 (show 77 = 77 ∧ (5 = 4 ∨ 5 = 5 ∨ 7 ≤ 5 ∧ 5 ≤ 10 ∨ 14 ≤ 5 ∧ 5 ≤ 16 ∨ 5 = 25) ∨ 80 ≤ 77 ∧ 77 ≤ 84 ∧ 8 ≤ 5 ∨ 85 ≤ 77 ∧ 77 ≤ 87 ∧ 12 ≤ 5 by decide)
                                        refine to_c (pc := 13) rw_152_13 (x := (0 : Int32)) rfl rfl (s_r1 (pc := 14) rw_152_14 (A := 0) rfl (by decide) (b_ieq_t (pc := 35) rw_162_35 (A := 0) rfl (by decide) (to_c (pc := 42) rw_162_42 (x := (0 : Int32)) rfl rfl (s_r1 (pc := 43) rw_162_43 (A := 0) rfl (by decide) (b_ine_f (pc := 303) rw_170_303 (A := 0) rfl (by decide) (to_c (pc := 306) rw_170_306 (x := (0 : Int32)) rfl rfl (s_r1 (pc := 307) rw_170_307 (A := 0) rfl (by decide) ?_)))))))
                                        have k_904 : (0 : Int32).toInt = 0 := rfl
                                        have c_905 : M901.2.1 77 7 = (M881.2.1 77 7) := (W_n W900 (by decide) (W_n W894 (by decide) rfl))
                                        have t_906 : (M901.2.1 77 7).toInt = (M881.2.1 77 7).toInt := congrArg Int32.toInt c_905
                                        have c_907 : M901.2.1 77 6 = (M.2.1 77 6) := (W_n W900 (by decide) (W_n W894 (by decide) c_884))
                                        have t_908 : (M901.2.1 77 6).toInt = (M.2.1 77 6).toInt := congrArg Int32.toInt c_907
                                        have c_909 : M901.2.1 77 8 = (M881.2.1 77 8) := (W_n W900 (by decide) (W_n W894 (by decide) rfl))
                                        have t_910 : (M901.2.1 77 8).toInt = (M881.2.1 77 8).toInt := congrArg Int32.toInt c_909
                                        have j_911 := (FA_f (fun a i z => W_n W900 (tg_320 a i z) rfl) (FA_f (fun a i z => W_n W894 (tg_321 a i z) rfl) (FA_f (tg_309 F876) (FA_f (tg_307 F864) (FA_f (tg_309 F816) (FA_f (tg_307 F804) (FA_f (tg_309 F165) (FA_f (tg_309 F101) (FA_f (tg_310 F85) (FA_f (tg_309 F69) q2))))))))))
                                        have j_912 := (WR_f (fun a i z => W_n W900 (by /-r77,5-/ omega) rfl) (WR_f (fun a i z => W_n W894 (by /-r77,4-/ omega) rfl) (WR_f (tg_311 F876) (WR_f (tg_308 F864) (WR_f (tg_311 F816) (WR_f (tg_308 F804) (WR_f (tg_311 F165) (WR_f (tg_311 F101) (WR_f (tg_312 F85) (WR_f (tg_311 F69) q3))))))))))
                                        have c_913 : M901.2.1 77 4 = (2 : Int32) := (W_n W900 (by decide) (W_e W894))
                                        have k_914 : (2 : Int32).toInt = 2 := rfl
                                        have t_915 : (M901.2.1 77 4).toInt = (2 : Int32).toInt := congrArg Int32.toInt c_913
                                        have c_916 : M901.2.1 77 5 = (M881.2.1 77 10) := (W_e W900)
                                        have t_917 : (M901.2.1 77 5).toInt = (M881.2.1 77 10).toInt := congrArg Int32.toInt c_916
                                        exact h (0 : Int32) M901 hG902 F903 (by decide) (by decide) (by omega) (by omega) (by omega) j_911 j_912 (by omega)
                                      · refine to_an (pc := 22) rw_162_22 rfl (tt_gI (pc := 23) rw_162_23 (g_o hG877 rfl) (v := (M881.2.1 77 9)) rfl (to_in (pc := 26) rw_162_26 rfl (b_cle (pc := 27) rw_162_27 (A := (M881.2.1 77 9).toInt) (B := 4) rfl rfl (fun h918 => ?_) (fun h918 => ?_))))
                                        · refine to_c (pc := 38) rw_162_38 (x := (1 : Int32)) rfl rfl (to_go (pc := 39) rw_162_39 (s_r1 (pc := 43) rw_162_43 (A := 1) rfl (by decide) (b_ine_t (pc := 303) rw_170_303 (A := 1) rfl (by decide) (to_an (pc := 308) rw_170_308 rfl (tt_gI (pc := 309) rw_170_309 (g_o hG877 rfl) (v := (M881.2.1 77 9)) rfl (to_is (pc := 312) rw_170_312 (ls2 := [.ref 77, .int v94, .int (M74.2.1 77 9), .int v163, .int (1 : Int32), .int (0 : Int32), .int (M170.2.1 77 9), .int (M821.2.1 77 9), .int (M881.2.1 77 9)]) rfl rfl (to_an (pc := 314) rw_170_314 rfl (s_v (pc := 315) rw_170_315 (dp0 hd (by decide)) (ls0 := [.ref 77]) rfl (Nat.le_of_ble_eq_true rfl) (Nat.le_of_ble_eq_true rfl) rfl (to_rc rfl rfl rfl (g_o hG877 rfl)) rfl (C_156 hX (dp1 hd (by decide)) hG877 (by omega)  (fun M924 hG920 F919 p_921 p_922 p_923 => ?_))))))))))
                                          have F925 := FR.c F882 F919 tg_79
                                          have b_926 := g_b hG920 (a := 77) (i := 7) (lo := 0) (hi := 500) rfl rfl
                                          have c_927 : M924.2.1 77 6 = (M.2.1 77 6) := (F_n F919 (show ¬ (77 = 77 ∧ 7 ≤ 6 ∧ 6 ≤ 10) by decide) c_884)
                                          have t_928 : (M924.2.1 77 6).toInt = (M.2.1 77 6).toInt := congrArg Int32.toInt c_927
                                          have b_929 := g_b hG920 (a := 77) (i := 8) (lo := 0) (hi := 5) rfl rfl
                                          have c_930 : M924.2.1 77 15 = (M.2.1 77 15) := (F_n F919 (show ¬ (77 = 77 ∧ 7 ≤ 15 ∧ 15 ≤ 10) by decide) (F_n F876 (show ¬ (77 = 77 ∧ 7 ≤ 15 ∧ 15 ≤ 10) by decide) (F_n F864 (show ¬ (77 < 0) by decide) (F_n F816 (show ¬ (77 = 77 ∧ 7 ≤ 15 ∧ 15 ≤ 10) by decide) (F_n F804 (show ¬ (77 < 0) by decide) (F_n F165 (show ¬ (77 = 77 ∧ 7 ≤ 15 ∧ 15 ≤ 10) by decide) (F_n F101 (show ¬ (77 = 77 ∧ 7 ≤ 15 ∧ 15 ≤ 10) by decide) c_93)))))))
                                          have t_931 : (M924.2.1 77 15).toInt = (M.2.1 77 15).toInt := congrArg Int32.toInt c_930
                                          have j_932 := (FA_f (tg_309 F919) (FA_f (tg_309 F876) (FA_f (tg_307 F864) (FA_f (tg_309 F816) (FA_f (tg_307 F804) (FA_f (tg_309 F165) (FA_f (tg_309 F101) (FA_f (tg_310 F85) (FA_f (tg_309 F69) q2)))))))))
                                          have j_933 := (WR_f (tg_311 F919) (WR_f (tg_311 F876) (WR_f (tg_308 F864) (WR_f (tg_311 F816) (WR_f (tg_308 F804) (WR_f (tg_311 F165) (WR_f (tg_311 F101) (WR_f (tg_312 F85) (WR_f (tg_311 F69) q3)))))))))
                                          have c_934 : M924.2.1 77 4 = (M90.2.1 77 4) := (F_n F919 (show ¬ (77 = 77 ∧ 7 ≤ 4 ∧ 4 ≤ 10) by decide) (F_n F876 (show ¬ (77 = 77 ∧ 7 ≤ 4 ∧ 4 ≤ 10) by decide) (F_n F864 (show ¬ (77 < 0) by decide) (F_n F816 (show ¬ (77 = 77 ∧ 7 ≤ 4 ∧ 4 ≤ 10) by decide) (F_n F804 (show ¬ (77 < 0) by decide) (F_n F165 (show ¬ (77 = 77 ∧ 7 ≤ 4 ∧ 4 ≤ 10) by decide) (F_n F101 (show ¬ (77 = 77 ∧ 7 ≤ 4 ∧ 4 ≤ 10) by decide) rfl)))))))
                                          have t_935 : (M924.2.1 77 4).toInt = (M90.2.1 77 4).toInt := congrArg Int32.toInt c_934
                                          have c_936 : M924.2.1 77 5 = (M90.2.1 77 5) := (F_n F919 (show ¬ (77 = 77 ∧ 7 ≤ 5 ∧ 5 ≤ 10) by decide) (F_n F876 (show ¬ (77 = 77 ∧ 7 ≤ 5 ∧ 5 ≤ 10) by decide) (F_n F864 (show ¬ (77 < 0) by decide) (F_n F816 (show ¬ (77 = 77 ∧ 7 ≤ 5 ∧ 5 ≤ 10) by decide) (F_n F804 (show ¬ (77 < 0) by decide) (F_n F165 (show ¬ (77 = 77 ∧ 7 ≤ 5 ∧ 5 ≤ 10) by decide) (F_n F101 (show ¬ (77 = 77 ∧ 7 ≤ 5 ∧ 5 ≤ 10) by decide) rfl)))))))
                                          have t_937 : (M924.2.1 77 5).toInt = (M90.2.1 77 5).toInt := congrArg Int32.toInt c_936
                                          exact (T_170_0 hX hd q1 q2 q3 h (((0 : Int)).toNat + 1)) M924 v94 (M74.2.1 77 9) v163 (.int (1 : Int32)) (.int (0 : Int32)) (M170.2.1 77 9) (M821.2.1 77 9) (M881.2.1 77 9) hG920 F925 (by omega) (by omega) (by omega) (by omega) (by omega) (by omega) (by omega) (by omega) (by omega) (by omega) (by omega) (by omega) (by omega) (by omega) (by omega) j_932 j_933 (by omega) (by omega)
                                        · refine to_an (pc := 30) rw_162_30 rfl (to_c (pc := 31) rw_162_31 (x := (2 : Int32)) rfl rfl (s_v (pc := 32) rw_162_32 (dp1 hd (by decide)) (ls0 := [.ref 77, .int (2 : Int32)]) rfl (Nat.le_of_ble_eq_true rfl) (Nat.le_of_ble_eq_true rfl) rfl (to_rc rfl rfl rfl (g_o hG877 rfl)) rfl (to_an (pc := 0) rw_152_0 rfl (to_in (pc := 1) rw_152_1 rfl (s_pI (pc := 2) rw_152_2 hG877 rfl (fun M939 W938 => ?_))))))
                                          have hG940 := g_wf hG877 W938 rfl rfl (by decide)
                                          have F941 := FR.w F882 W938 (show 77 = 77 ∧ (4 = 4 ∨ 4 = 5 ∨ 7 ≤ 4 ∧ 4 ≤ 10 ∨ 14 ≤ 4 ∧ 4 ≤ 16 ∨ 4 = 25) ∨ 80 ≤ 77 ∧ 77 ≤ 84 ∧ 8 ≤ 4 ∨ 85 ≤ 77 ∧ 77 ≤ 87 ∧ 12 ≤ 4 by decide)
                                          refine to_an (pc := 5) rw_152_5 rfl (to_an (pc := 6) rw_152_6 rfl ?_)
                                          have c_942 : M939.2.1 77 10 = (M881.2.1 77 10) := (W_n W938 (by decide) rfl)
                                          have b_943 := g_b hG877 (a := 77) (i := 10) (lo := 0) (hi := 500) rfl rfl
                                          refine tt_gI (pc := 7) rw_152_7 (g_o hG940 rfl) (v := (M881.2.1 77 10)) c_942 (s_pI (pc := 10) rw_152_10 hG940 rfl (fun M945 W944 => ?_))
                                          have hG946 := g_wf hG940 W944 rfl rfl (by decide)
                                          have F947 := FR.w F941 W944 (show 77 = 77 ∧ (5 = 4 ∨ 5 = 5 ∨ 7 ≤ 5 ∧ 5 ≤ 10 ∨ 14 ≤ 5 ∧ 5 ≤ 16 ∨ 5 = 25) ∨ 80 ≤ 77 ∧ 77 ≤ 84 ∧ 8 ≤ 5 ∨ 85 ≤ 77 ∧ 77 ≤ 87 ∧ 12 ≤ 5 by decide)
                                          refine to_c (pc := 13) rw_152_13 (x := (0 : Int32)) rfl rfl (s_r1 (pc := 14) rw_152_14 (A := 0) rfl (by decide) (b_ieq_t (pc := 35) rw_162_35 (A := 0) rfl (by decide) (to_c (pc := 42) rw_162_42 (x := (0 : Int32)) rfl rfl (s_r1 (pc := 43) rw_162_43 (A := 0) rfl (by decide) (b_ine_f (pc := 303) rw_170_303 (A := 0) rfl (by decide) (to_c (pc := 306) rw_170_306 (x := (0 : Int32)) rfl rfl (s_r1 (pc := 307) rw_170_307 (A := 0) rfl (by decide) ?_)))))))
                                          have k_948 : (0 : Int32).toInt = 0 := rfl
                                          have c_949 : M945.2.1 77 7 = (M881.2.1 77 7) := (W_n W944 (by decide) (W_n W938 (by decide) rfl))
                                          have t_950 : (M945.2.1 77 7).toInt = (M881.2.1 77 7).toInt := congrArg Int32.toInt c_949
                                          have c_951 : M945.2.1 77 6 = (M.2.1 77 6) := (W_n W944 (by decide) (W_n W938 (by decide) c_884))
                                          have t_952 : (M945.2.1 77 6).toInt = (M.2.1 77 6).toInt := congrArg Int32.toInt c_951
                                          have c_953 : M945.2.1 77 8 = (M881.2.1 77 8) := (W_n W944 (by decide) (W_n W938 (by decide) rfl))
                                          have t_954 : (M945.2.1 77 8).toInt = (M881.2.1 77 8).toInt := congrArg Int32.toInt c_953
                                          have j_955 := (FA_f (fun a i z => W_n W944 (tg_320 a i z) rfl) (FA_f (fun a i z => W_n W938 (tg_321 a i z) rfl) (FA_f (tg_309 F876) (FA_f (tg_307 F864) (FA_f (tg_309 F816) (FA_f (tg_307 F804) (FA_f (tg_309 F165) (FA_f (tg_309 F101) (FA_f (tg_310 F85) (FA_f (tg_309 F69) q2))))))))))
                                          have j_956 := (WR_f (fun a i z => W_n W944 (by /-r77,5-/ omega) rfl) (WR_f (fun a i z => W_n W938 (by /-r77,4-/ omega) rfl) (WR_f (tg_311 F876) (WR_f (tg_308 F864) (WR_f (tg_311 F816) (WR_f (tg_308 F804) (WR_f (tg_311 F165) (WR_f (tg_311 F101) (WR_f (tg_312 F85) (WR_f (tg_311 F69) q3))))))))))
                                          have c_957 : M945.2.1 77 4 = (2 : Int32) := (W_n W944 (by decide) (W_e W938))
                                          have k_958 : (2 : Int32).toInt = 2 := rfl
                                          have t_959 : (M945.2.1 77 4).toInt = (2 : Int32).toInt := congrArg Int32.toInt c_957
                                          have c_960 : M945.2.1 77 5 = (M881.2.1 77 10) := (W_e W944)
                                          have t_961 : (M945.2.1 77 5).toInt = (M881.2.1 77 10).toInt := congrArg Int32.toInt c_960
                                          exact h (0 : Int32) M945 hG946 F947 (by decide) (by decide) (by omega) (by omega) (by omega) j_955 j_956 (by omega)
                                    · refine to_an (pc := 8) rw_162_8 rfl (to_c (pc := 9) rw_162_9 (x := (1 : Int32)) rfl rfl (s_v (pc := 10) rw_162_10 (dp1 hd (by decide)) (ls0 := [.ref 77, .int (1 : Int32)]) rfl (Nat.le_of_ble_eq_true rfl) (Nat.le_of_ble_eq_true rfl) rfl (to_rc rfl rfl rfl (g_o hG877 rfl)) rfl (to_an (pc := 0) rw_152_0 rfl (to_in (pc := 1) rw_152_1 rfl (s_pI (pc := 2) rw_152_2 hG877 rfl (fun M963 W962 => ?_))))))
                                      have hG964 := g_wf hG877 W962 rfl rfl (by decide)
                                      have F965 := FR.w F882 W962 (show 77 = 77 ∧ (4 = 4 ∨ 4 = 5 ∨ 7 ≤ 4 ∧ 4 ≤ 10 ∨ 14 ≤ 4 ∧ 4 ≤ 16 ∨ 4 = 25) ∨ 80 ≤ 77 ∧ 77 ≤ 84 ∧ 8 ≤ 4 ∨ 85 ≤ 77 ∧ 77 ≤ 87 ∧ 12 ≤ 4 by decide)
                                      refine to_an (pc := 5) rw_152_5 rfl (to_an (pc := 6) rw_152_6 rfl ?_)
                                      have c_966 : M963.2.1 77 10 = (M881.2.1 77 10) := (W_n W962 (by decide) rfl)
                                      have b_967 := g_b hG877 (a := 77) (i := 10) (lo := 0) (hi := 500) rfl rfl
                                      refine tt_gI (pc := 7) rw_152_7 (g_o hG964 rfl) (v := (M881.2.1 77 10)) c_966 (s_pI (pc := 10) rw_152_10 hG964 rfl (fun M969 W968 => ?_))
                                      have hG970 := g_wf hG964 W968 rfl rfl (by decide)
                                      have F971 := FR.w F965 W968 (show 77 = 77 ∧ (5 = 4 ∨ 5 = 5 ∨ 7 ≤ 5 ∧ 5 ≤ 10 ∨ 14 ≤ 5 ∧ 5 ≤ 16 ∨ 5 = 25) ∨ 80 ≤ 77 ∧ 77 ≤ 84 ∧ 8 ≤ 5 ∨ 85 ≤ 77 ∧ 77 ≤ 87 ∧ 12 ≤ 5 by decide)
                                      refine to_c (pc := 13) rw_152_13 (x := (0 : Int32)) rfl rfl (s_r1 (pc := 14) rw_152_14 (A := 0) rfl (by decide) (s_r1 (pc := 13) rw_162_13 (A := 0) rfl (by decide) (b_ine_f (pc := 303) rw_170_303 (A := 0) rfl (by decide) (to_c (pc := 306) rw_170_306 (x := (0 : Int32)) rfl rfl (s_r1 (pc := 307) rw_170_307 (A := 0) rfl (by decide) ?_)))))
                                      have k_972 : (0 : Int32).toInt = 0 := rfl
                                      have c_973 : M969.2.1 77 7 = (M881.2.1 77 7) := (W_n W968 (by decide) (W_n W962 (by decide) rfl))
                                      have t_974 : (M969.2.1 77 7).toInt = (M881.2.1 77 7).toInt := congrArg Int32.toInt c_973
                                      have c_975 : M969.2.1 77 6 = (M.2.1 77 6) := (W_n W968 (by decide) (W_n W962 (by decide) c_884))
                                      have t_976 : (M969.2.1 77 6).toInt = (M.2.1 77 6).toInt := congrArg Int32.toInt c_975
                                      have c_977 : M969.2.1 77 8 = (M881.2.1 77 8) := (W_n W968 (by decide) (W_n W962 (by decide) rfl))
                                      have t_978 : (M969.2.1 77 8).toInt = (M881.2.1 77 8).toInt := congrArg Int32.toInt c_977
                                      have j_979 := (FA_f (fun a i z => W_n W968 (tg_320 a i z) rfl) (FA_f (fun a i z => W_n W962 (tg_321 a i z) rfl) (FA_f (tg_309 F876) (FA_f (tg_307 F864) (FA_f (tg_309 F816) (FA_f (tg_307 F804) (FA_f (tg_309 F165) (FA_f (tg_309 F101) (FA_f (tg_310 F85) (FA_f (tg_309 F69) q2))))))))))
                                      have j_980 := (WR_f (fun a i z => W_n W968 (by /-r77,5-/ omega) rfl) (WR_f (fun a i z => W_n W962 (by /-r77,4-/ omega) rfl) (WR_f (tg_311 F876) (WR_f (tg_308 F864) (WR_f (tg_311 F816) (WR_f (tg_308 F804) (WR_f (tg_311 F165) (WR_f (tg_311 F101) (WR_f (tg_312 F85) (WR_f (tg_311 F69) q3))))))))))
                                      have c_981 : M969.2.1 77 4 = (1 : Int32) := (W_n W968 (by decide) (W_e W962))
                                      have k_982 : (1 : Int32).toInt = 1 := rfl
                                      have t_983 : (M969.2.1 77 4).toInt = (1 : Int32).toInt := congrArg Int32.toInt c_981
                                      have c_984 : M969.2.1 77 5 = (M881.2.1 77 10) := (W_e W968)
                                      have t_985 : (M969.2.1 77 5).toInt = (M881.2.1 77 10).toInt := congrArg Int32.toInt c_984
                                      exact h (0 : Int32) M969 hG970 F971 (by decide) (by decide) (by omega) (by omega) (by omega) j_979 j_980 (by omega)
                                  · refine to_i (pc := 294) rw_170_294 rfl (to_go (pc := 296) rw_170_296 (s_v (pc := 300) rw_170_300 (dp0 hd (by decide)) (ls0 := [.ref 77, .int (1 : Int32), .int v889]) rfl (Nat.le_of_ble_eq_true rfl) (Nat.le_of_ble_eq_true rfl) rfl (to_rc rfl rfl rfl (g_o hG877 rfl)) rfl (to_an (pc := 0) rw_162_0 rfl (tt_gI (pc := 1) rw_162_1 (g_o hG877 rfl) (v := (M881.2.1 77 8)) rfl (to_c (pc := 4) rw_162_4 (x := (3 : Int32)) rfl rfl (b_ceq (pc := 5) rw_162_5 (A := (M881.2.1 77 8).toInt) (B := 3) rfl rfl (fun h986 => ?_) (fun h986 => ?_)))))))
                                    · refine to_an (pc := 14) rw_162_14 rfl (tt_gI (pc := 15) rw_162_15 (g_o hG877 rfl) (v := (M881.2.1 77 9)) rfl (to_in (pc := 18) rw_162_18 rfl (b_clt (pc := 19) rw_162_19 (A := (M881.2.1 77 9).toInt) (B := 1) rfl rfl (fun h987 => ?_) (fun h987 => ?_))))
                                      · refine to_an (pc := 30) rw_162_30 rfl (to_c (pc := 31) rw_162_31 (x := (2 : Int32)) rfl rfl (s_v (pc := 32) rw_162_32 (dp1 hd (by decide)) (ls0 := [.ref 77, .int (2 : Int32)]) rfl (Nat.le_of_ble_eq_true rfl) (Nat.le_of_ble_eq_true rfl) rfl (to_rc rfl rfl rfl (g_o hG877 rfl)) rfl (to_an (pc := 0) rw_152_0 rfl (to_in (pc := 1) rw_152_1 rfl (s_pI (pc := 2) rw_152_2 hG877 rfl (fun M989 W988 => ?_))))))
                                        have hG990 := g_wf hG877 W988 rfl rfl (by decide)
                                        have F991 := FR.w F882 W988 (show 77 = 77 ∧ (4 = 4 ∨ 4 = 5 ∨ 7 ≤ 4 ∧ 4 ≤ 10 ∨ 14 ≤ 4 ∧ 4 ≤ 16 ∨ 4 = 25) ∨ 80 ≤ 77 ∧ 77 ≤ 84 ∧ 8 ≤ 4 ∨ 85 ≤ 77 ∧ 77 ≤ 87 ∧ 12 ≤ 4 by decide)
                                        refine to_an (pc := 5) rw_152_5 rfl (to_an (pc := 6) rw_152_6 rfl ?_)
                                        have c_992 : M989.2.1 77 10 = (M881.2.1 77 10) := (W_n W988 (by decide) rfl)
                                        have b_993 := g_b hG877 (a := 77) (i := 10) (lo := 0) (hi := 500) rfl rfl
                                        refine tt_gI (pc := 7) rw_152_7 (g_o hG990 rfl) (v := (M881.2.1 77 10)) c_992 (s_pI (pc := 10) rw_152_10 hG990 rfl (fun M995 W994 => ?_))
                                        have hG996 := g_wf hG990 W994 rfl rfl (by decide)
                                        have F997 := FR.w F991 W994 (show 77 = 77 ∧ (5 = 4 ∨ 5 = 5 ∨ 7 ≤ 5 ∧ 5 ≤ 10 ∨ 14 ≤ 5 ∧ 5 ≤ 16 ∨ 5 = 25) ∨ 80 ≤ 77 ∧ 77 ≤ 84 ∧ 8 ≤ 5 ∨ 85 ≤ 77 ∧ 77 ≤ 87 ∧ 12 ≤ 5 by decide)
                                        refine to_c (pc := 13) rw_152_13 (x := (0 : Int32)) rfl rfl (s_r1 (pc := 14) rw_152_14 (A := 0) rfl (by decide) (b_ieq_t (pc := 35) rw_162_35 (A := 0) rfl (by decide) (to_c (pc := 42) rw_162_42 (x := (0 : Int32)) rfl rfl (s_r1 (pc := 43) rw_162_43 (A := 0) rfl (by decide) (b_ine_f (pc := 303) rw_170_303 (A := 0) rfl (by decide) (to_c (pc := 306) rw_170_306 (x := (0 : Int32)) rfl rfl (s_r1 (pc := 307) rw_170_307 (A := 0) rfl (by decide) ?_)))))))
                                        have k_998 : (0 : Int32).toInt = 0 := rfl
                                        have c_999 : M995.2.1 77 7 = (M881.2.1 77 7) := (W_n W994 (by decide) (W_n W988 (by decide) rfl))
                                        have t_1000 : (M995.2.1 77 7).toInt = (M881.2.1 77 7).toInt := congrArg Int32.toInt c_999
                                        have c_1001 : M995.2.1 77 6 = (M.2.1 77 6) := (W_n W994 (by decide) (W_n W988 (by decide) c_884))
                                        have t_1002 : (M995.2.1 77 6).toInt = (M.2.1 77 6).toInt := congrArg Int32.toInt c_1001
                                        have c_1003 : M995.2.1 77 8 = (M881.2.1 77 8) := (W_n W994 (by decide) (W_n W988 (by decide) rfl))
                                        have t_1004 : (M995.2.1 77 8).toInt = (M881.2.1 77 8).toInt := congrArg Int32.toInt c_1003
                                        have j_1005 := (FA_f (fun a i z => W_n W994 (tg_320 a i z) rfl) (FA_f (fun a i z => W_n W988 (tg_321 a i z) rfl) (FA_f (tg_309 F876) (FA_f (tg_307 F864) (FA_f (tg_309 F816) (FA_f (tg_307 F804) (FA_f (tg_309 F165) (FA_f (tg_309 F101) (FA_f (tg_310 F85) (FA_f (tg_309 F69) q2))))))))))
                                        have j_1006 := (WR_f (fun a i z => W_n W994 (by /-r77,5-/ omega) rfl) (WR_f (fun a i z => W_n W988 (by /-r77,4-/ omega) rfl) (WR_f (tg_311 F876) (WR_f (tg_308 F864) (WR_f (tg_311 F816) (WR_f (tg_308 F804) (WR_f (tg_311 F165) (WR_f (tg_311 F101) (WR_f (tg_312 F85) (WR_f (tg_311 F69) q3))))))))))
                                        have c_1007 : M995.2.1 77 4 = (2 : Int32) := (W_n W994 (by decide) (W_e W988))
                                        have k_1008 : (2 : Int32).toInt = 2 := rfl
                                        have t_1009 : (M995.2.1 77 4).toInt = (2 : Int32).toInt := congrArg Int32.toInt c_1007
                                        have c_1010 : M995.2.1 77 5 = (M881.2.1 77 10) := (W_e W994)
                                        have t_1011 : (M995.2.1 77 5).toInt = (M881.2.1 77 10).toInt := congrArg Int32.toInt c_1010
                                        exact h (0 : Int32) M995 hG996 F997 (by decide) (by decide) (by omega) (by omega) (by omega) j_1005 j_1006 (by omega)
                                      · refine to_an (pc := 22) rw_162_22 rfl (tt_gI (pc := 23) rw_162_23 (g_o hG877 rfl) (v := (M881.2.1 77 9)) rfl (to_in (pc := 26) rw_162_26 rfl (b_cle (pc := 27) rw_162_27 (A := (M881.2.1 77 9).toInt) (B := v889.toInt) rfl rfl (fun h1012 => ?_) (fun h1012 => ?_))))
                                        · refine to_c (pc := 38) rw_162_38 (x := (1 : Int32)) rfl rfl (to_go (pc := 39) rw_162_39 (s_r1 (pc := 43) rw_162_43 (A := 1) rfl (by decide) (b_ine_t (pc := 303) rw_170_303 (A := 1) rfl (by decide) (to_an (pc := 308) rw_170_308 rfl (tt_gI (pc := 309) rw_170_309 (g_o hG877 rfl) (v := (M881.2.1 77 9)) rfl (to_is (pc := 312) rw_170_312 (ls2 := [.ref 77, .int v94, .int (M74.2.1 77 9), .int v163, .int (1 : Int32), .int (0 : Int32), .int (M170.2.1 77 9), .int (M821.2.1 77 9), .int (M881.2.1 77 9)]) rfl rfl (to_an (pc := 314) rw_170_314 rfl (s_v (pc := 315) rw_170_315 (dp0 hd (by decide)) (ls0 := [.ref 77]) rfl (Nat.le_of_ble_eq_true rfl) (Nat.le_of_ble_eq_true rfl) rfl (to_rc rfl rfl rfl (g_o hG877 rfl)) rfl (C_156 hX (dp1 hd (by decide)) hG877 (by omega)  (fun M1018 hG1014 F1013 p_1015 p_1016 p_1017 => ?_))))))))))
                                          have F1019 := FR.c F882 F1013 tg_79
                                          have b_1020 := g_b hG1014 (a := 77) (i := 7) (lo := 0) (hi := 500) rfl rfl
                                          have c_1021 : M1018.2.1 77 6 = (M.2.1 77 6) := (F_n F1013 (show ¬ (77 = 77 ∧ 7 ≤ 6 ∧ 6 ≤ 10) by decide) c_884)
                                          have t_1022 : (M1018.2.1 77 6).toInt = (M.2.1 77 6).toInt := congrArg Int32.toInt c_1021
                                          have b_1023 := g_b hG1014 (a := 77) (i := 8) (lo := 0) (hi := 5) rfl rfl
                                          have c_1024 : M1018.2.1 77 15 = (M.2.1 77 15) := (F_n F1013 (show ¬ (77 = 77 ∧ 7 ≤ 15 ∧ 15 ≤ 10) by decide) (F_n F876 (show ¬ (77 = 77 ∧ 7 ≤ 15 ∧ 15 ≤ 10) by decide) (F_n F864 (show ¬ (77 < 0) by decide) (F_n F816 (show ¬ (77 = 77 ∧ 7 ≤ 15 ∧ 15 ≤ 10) by decide) (F_n F804 (show ¬ (77 < 0) by decide) (F_n F165 (show ¬ (77 = 77 ∧ 7 ≤ 15 ∧ 15 ≤ 10) by decide) (F_n F101 (show ¬ (77 = 77 ∧ 7 ≤ 15 ∧ 15 ≤ 10) by decide) c_93)))))))
                                          have t_1025 : (M1018.2.1 77 15).toInt = (M.2.1 77 15).toInt := congrArg Int32.toInt c_1024
                                          have j_1026 := (FA_f (tg_309 F1013) (FA_f (tg_309 F876) (FA_f (tg_307 F864) (FA_f (tg_309 F816) (FA_f (tg_307 F804) (FA_f (tg_309 F165) (FA_f (tg_309 F101) (FA_f (tg_310 F85) (FA_f (tg_309 F69) q2)))))))))
                                          have j_1027 := (WR_f (tg_311 F1013) (WR_f (tg_311 F876) (WR_f (tg_308 F864) (WR_f (tg_311 F816) (WR_f (tg_308 F804) (WR_f (tg_311 F165) (WR_f (tg_311 F101) (WR_f (tg_312 F85) (WR_f (tg_311 F69) q3)))))))))
                                          have c_1028 : M1018.2.1 77 4 = (M90.2.1 77 4) := (F_n F1013 (show ¬ (77 = 77 ∧ 7 ≤ 4 ∧ 4 ≤ 10) by decide) (F_n F876 (show ¬ (77 = 77 ∧ 7 ≤ 4 ∧ 4 ≤ 10) by decide) (F_n F864 (show ¬ (77 < 0) by decide) (F_n F816 (show ¬ (77 = 77 ∧ 7 ≤ 4 ∧ 4 ≤ 10) by decide) (F_n F804 (show ¬ (77 < 0) by decide) (F_n F165 (show ¬ (77 = 77 ∧ 7 ≤ 4 ∧ 4 ≤ 10) by decide) (F_n F101 (show ¬ (77 = 77 ∧ 7 ≤ 4 ∧ 4 ≤ 10) by decide) rfl)))))))
                                          have t_1029 : (M1018.2.1 77 4).toInt = (M90.2.1 77 4).toInt := congrArg Int32.toInt c_1028
                                          have c_1030 : M1018.2.1 77 5 = (M90.2.1 77 5) := (F_n F1013 (show ¬ (77 = 77 ∧ 7 ≤ 5 ∧ 5 ≤ 10) by decide) (F_n F876 (show ¬ (77 = 77 ∧ 7 ≤ 5 ∧ 5 ≤ 10) by decide) (F_n F864 (show ¬ (77 < 0) by decide) (F_n F816 (show ¬ (77 = 77 ∧ 7 ≤ 5 ∧ 5 ≤ 10) by decide) (F_n F804 (show ¬ (77 < 0) by decide) (F_n F165 (show ¬ (77 = 77 ∧ 7 ≤ 5 ∧ 5 ≤ 10) by decide) (F_n F101 (show ¬ (77 = 77 ∧ 7 ≤ 5 ∧ 5 ≤ 10) by decide) rfl)))))))
                                          have t_1031 : (M1018.2.1 77 5).toInt = (M90.2.1 77 5).toInt := congrArg Int32.toInt c_1030
                                          exact (T_170_0 hX hd q1 q2 q3 h (((0 : Int)).toNat + 1)) M1018 v94 (M74.2.1 77 9) v163 (.int (1 : Int32)) (.int (0 : Int32)) (M170.2.1 77 9) (M821.2.1 77 9) (M881.2.1 77 9) hG1014 F1019 (by omega) (by omega) (by omega) (by omega) (by omega) (by omega) (by omega) (by omega) (by omega) (by omega) (by omega) (by omega) (by omega) (by omega) (by omega) j_1026 j_1027 (by omega) (by omega)
                                        · refine to_an (pc := 30) rw_162_30 rfl (to_c (pc := 31) rw_162_31 (x := (2 : Int32)) rfl rfl (s_v (pc := 32) rw_162_32 (dp1 hd (by decide)) (ls0 := [.ref 77, .int (2 : Int32)]) rfl (Nat.le_of_ble_eq_true rfl) (Nat.le_of_ble_eq_true rfl) rfl (to_rc rfl rfl rfl (g_o hG877 rfl)) rfl (to_an (pc := 0) rw_152_0 rfl (to_in (pc := 1) rw_152_1 rfl (s_pI (pc := 2) rw_152_2 hG877 rfl (fun M1033 W1032 => ?_))))))
                                          have hG1034 := g_wf hG877 W1032 rfl rfl (by decide)
                                          have F1035 := FR.w F882 W1032 (show 77 = 77 ∧ (4 = 4 ∨ 4 = 5 ∨ 7 ≤ 4 ∧ 4 ≤ 10 ∨ 14 ≤ 4 ∧ 4 ≤ 16 ∨ 4 = 25) ∨ 80 ≤ 77 ∧ 77 ≤ 84 ∧ 8 ≤ 4 ∨ 85 ≤ 77 ∧ 77 ≤ 87 ∧ 12 ≤ 4 by decide)
                                          refine to_an (pc := 5) rw_152_5 rfl (to_an (pc := 6) rw_152_6 rfl ?_)
                                          have c_1036 : M1033.2.1 77 10 = (M881.2.1 77 10) := (W_n W1032 (by decide) rfl)
                                          have b_1037 := g_b hG877 (a := 77) (i := 10) (lo := 0) (hi := 500) rfl rfl
                                          refine tt_gI (pc := 7) rw_152_7 (g_o hG1034 rfl) (v := (M881.2.1 77 10)) c_1036 (s_pI (pc := 10) rw_152_10 hG1034 rfl (fun M1039 W1038 => ?_))
                                          have hG1040 := g_wf hG1034 W1038 rfl rfl (by decide)
                                          have F1041 := FR.w F1035 W1038 (show 77 = 77 ∧ (5 = 4 ∨ 5 = 5 ∨ 7 ≤ 5 ∧ 5 ≤ 10 ∨ 14 ≤ 5 ∧ 5 ≤ 16 ∨ 5 = 25) ∨ 80 ≤ 77 ∧ 77 ≤ 84 ∧ 8 ≤ 5 ∨ 85 ≤ 77 ∧ 77 ≤ 87 ∧ 12 ≤ 5 by decide)
                                          refine to_c (pc := 13) rw_152_13 (x := (0 : Int32)) rfl rfl (s_r1 (pc := 14) rw_152_14 (A := 0) rfl (by decide) (b_ieq_t (pc := 35) rw_162_35 (A := 0) rfl (by decide) (to_c (pc := 42) rw_162_42 (x := (0 : Int32)) rfl rfl (s_r1 (pc := 43) rw_162_43 (A := 0) rfl (by decide) (b_ine_f (pc := 303) rw_170_303 (A := 0) rfl (by decide) (to_c (pc := 306) rw_170_306 (x := (0 : Int32)) rfl rfl (s_r1 (pc := 307) rw_170_307 (A := 0) rfl (by decide) ?_)))))))
                                          have k_1042 : (0 : Int32).toInt = 0 := rfl
                                          have c_1043 : M1039.2.1 77 7 = (M881.2.1 77 7) := (W_n W1038 (by decide) (W_n W1032 (by decide) rfl))
                                          have t_1044 : (M1039.2.1 77 7).toInt = (M881.2.1 77 7).toInt := congrArg Int32.toInt c_1043
                                          have c_1045 : M1039.2.1 77 6 = (M.2.1 77 6) := (W_n W1038 (by decide) (W_n W1032 (by decide) c_884))
                                          have t_1046 : (M1039.2.1 77 6).toInt = (M.2.1 77 6).toInt := congrArg Int32.toInt c_1045
                                          have c_1047 : M1039.2.1 77 8 = (M881.2.1 77 8) := (W_n W1038 (by decide) (W_n W1032 (by decide) rfl))
                                          have t_1048 : (M1039.2.1 77 8).toInt = (M881.2.1 77 8).toInt := congrArg Int32.toInt c_1047
                                          have j_1049 := (FA_f (fun a i z => W_n W1038 (tg_320 a i z) rfl) (FA_f (fun a i z => W_n W1032 (tg_321 a i z) rfl) (FA_f (tg_309 F876) (FA_f (tg_307 F864) (FA_f (tg_309 F816) (FA_f (tg_307 F804) (FA_f (tg_309 F165) (FA_f (tg_309 F101) (FA_f (tg_310 F85) (FA_f (tg_309 F69) q2))))))))))
                                          have j_1050 := (WR_f (fun a i z => W_n W1038 (by /-r77,5-/ omega) rfl) (WR_f (fun a i z => W_n W1032 (by /-r77,4-/ omega) rfl) (WR_f (tg_311 F876) (WR_f (tg_308 F864) (WR_f (tg_311 F816) (WR_f (tg_308 F804) (WR_f (tg_311 F165) (WR_f (tg_311 F101) (WR_f (tg_312 F85) (WR_f (tg_311 F69) q3))))))))))
                                          have c_1051 : M1039.2.1 77 4 = (2 : Int32) := (W_n W1038 (by decide) (W_e W1032))
                                          have k_1052 : (2 : Int32).toInt = 2 := rfl
                                          have t_1053 : (M1039.2.1 77 4).toInt = (2 : Int32).toInt := congrArg Int32.toInt c_1051
                                          have c_1054 : M1039.2.1 77 5 = (M881.2.1 77 10) := (W_e W1038)
                                          have t_1055 : (M1039.2.1 77 5).toInt = (M881.2.1 77 10).toInt := congrArg Int32.toInt c_1054
                                          exact h (0 : Int32) M1039 hG1040 F1041 (by decide) (by decide) (by omega) (by omega) (by omega) j_1049 j_1050 (by omega)
                                    · refine to_an (pc := 8) rw_162_8 rfl (to_c (pc := 9) rw_162_9 (x := (1 : Int32)) rfl rfl (s_v (pc := 10) rw_162_10 (dp1 hd (by decide)) (ls0 := [.ref 77, .int (1 : Int32)]) rfl (Nat.le_of_ble_eq_true rfl) (Nat.le_of_ble_eq_true rfl) rfl (to_rc rfl rfl rfl (g_o hG877 rfl)) rfl (to_an (pc := 0) rw_152_0 rfl (to_in (pc := 1) rw_152_1 rfl (s_pI (pc := 2) rw_152_2 hG877 rfl (fun M1057 W1056 => ?_))))))
                                      have hG1058 := g_wf hG877 W1056 rfl rfl (by decide)
                                      have F1059 := FR.w F882 W1056 (show 77 = 77 ∧ (4 = 4 ∨ 4 = 5 ∨ 7 ≤ 4 ∧ 4 ≤ 10 ∨ 14 ≤ 4 ∧ 4 ≤ 16 ∨ 4 = 25) ∨ 80 ≤ 77 ∧ 77 ≤ 84 ∧ 8 ≤ 4 ∨ 85 ≤ 77 ∧ 77 ≤ 87 ∧ 12 ≤ 4 by decide)
                                      refine to_an (pc := 5) rw_152_5 rfl (to_an (pc := 6) rw_152_6 rfl ?_)
                                      have c_1060 : M1057.2.1 77 10 = (M881.2.1 77 10) := (W_n W1056 (by decide) rfl)
                                      have b_1061 := g_b hG877 (a := 77) (i := 10) (lo := 0) (hi := 500) rfl rfl
                                      refine tt_gI (pc := 7) rw_152_7 (g_o hG1058 rfl) (v := (M881.2.1 77 10)) c_1060 (s_pI (pc := 10) rw_152_10 hG1058 rfl (fun M1063 W1062 => ?_))
                                      have hG1064 := g_wf hG1058 W1062 rfl rfl (by decide)
                                      have F1065 := FR.w F1059 W1062 (show 77 = 77 ∧ (5 = 4 ∨ 5 = 5 ∨ 7 ≤ 5 ∧ 5 ≤ 10 ∨ 14 ≤ 5 ∧ 5 ≤ 16 ∨ 5 = 25) ∨ 80 ≤ 77 ∧ 77 ≤ 84 ∧ 8 ≤ 5 ∨ 85 ≤ 77 ∧ 77 ≤ 87 ∧ 12 ≤ 5 by decide)
                                      refine to_c (pc := 13) rw_152_13 (x := (0 : Int32)) rfl rfl (s_r1 (pc := 14) rw_152_14 (A := 0) rfl (by decide) (s_r1 (pc := 13) rw_162_13 (A := 0) rfl (by decide) (b_ine_f (pc := 303) rw_170_303 (A := 0) rfl (by decide) (to_c (pc := 306) rw_170_306 (x := (0 : Int32)) rfl rfl (s_r1 (pc := 307) rw_170_307 (A := 0) rfl (by decide) ?_)))))
                                      have k_1066 : (0 : Int32).toInt = 0 := rfl
                                      have c_1067 : M1063.2.1 77 7 = (M881.2.1 77 7) := (W_n W1062 (by decide) (W_n W1056 (by decide) rfl))
                                      have t_1068 : (M1063.2.1 77 7).toInt = (M881.2.1 77 7).toInt := congrArg Int32.toInt c_1067
                                      have c_1069 : M1063.2.1 77 6 = (M.2.1 77 6) := (W_n W1062 (by decide) (W_n W1056 (by decide) c_884))
                                      have t_1070 : (M1063.2.1 77 6).toInt = (M.2.1 77 6).toInt := congrArg Int32.toInt c_1069
                                      have c_1071 : M1063.2.1 77 8 = (M881.2.1 77 8) := (W_n W1062 (by decide) (W_n W1056 (by decide) rfl))
                                      have t_1072 : (M1063.2.1 77 8).toInt = (M881.2.1 77 8).toInt := congrArg Int32.toInt c_1071
                                      have j_1073 := (FA_f (fun a i z => W_n W1062 (tg_320 a i z) rfl) (FA_f (fun a i z => W_n W1056 (tg_321 a i z) rfl) (FA_f (tg_309 F876) (FA_f (tg_307 F864) (FA_f (tg_309 F816) (FA_f (tg_307 F804) (FA_f (tg_309 F165) (FA_f (tg_309 F101) (FA_f (tg_310 F85) (FA_f (tg_309 F69) q2))))))))))
                                      have j_1074 := (WR_f (fun a i z => W_n W1062 (by /-r77,5-/ omega) rfl) (WR_f (fun a i z => W_n W1056 (by /-r77,4-/ omega) rfl) (WR_f (tg_311 F876) (WR_f (tg_308 F864) (WR_f (tg_311 F816) (WR_f (tg_308 F804) (WR_f (tg_311 F165) (WR_f (tg_311 F101) (WR_f (tg_312 F85) (WR_f (tg_311 F69) q3))))))))))
                                      have c_1075 : M1063.2.1 77 4 = (1 : Int32) := (W_n W1062 (by decide) (W_e W1056))
                                      have k_1076 : (1 : Int32).toInt = 1 := rfl
                                      have t_1077 : (M1063.2.1 77 4).toInt = (1 : Int32).toInt := congrArg Int32.toInt c_1075
                                      have c_1078 : M1063.2.1 77 5 = (M881.2.1 77 10) := (W_e W1062)
                                      have t_1079 : (M1063.2.1 77 5).toInt = (M881.2.1 77 10).toInt := congrArg Int32.toInt c_1078
                                      exact h (0 : Int32) M1063 hG1064 F1065 (by decide) (by decide) (by omega) (by omega) (by omega) j_1073 j_1074 (by omega)
                                · refine to_an (pc := 262) rw_170_262 rfl (to_c (pc := 263) rw_170_263 (x := (3 : Int32)) rfl rfl (s_v (pc := 264) rw_170_264 (dp0 hd (by decide)) (ls0 := [.ref 77, .int (3 : Int32)]) rfl (Nat.le_of_ble_eq_true rfl) (Nat.le_of_ble_eq_true rfl) rfl (to_rc rfl rfl rfl (g_o hG865 rfl)) rfl (to_an (pc := 0) rw_152_0 rfl (to_in (pc := 1) rw_152_1 rfl (s_pI (pc := 2) rw_152_2 hG865 rfl (fun M1081 W1080 => ?_))))))
                                  have hG1082 := g_wf hG865 W1080 rfl rfl (by decide)
                                  have F1083 := FR.w F867 W1080 (show 77 = 77 ∧ (4 = 4 ∨ 4 = 5 ∨ 7 ≤ 4 ∧ 4 ≤ 10 ∨ 14 ≤ 4 ∧ 4 ≤ 16 ∨ 4 = 25) ∨ 80 ≤ 77 ∧ 77 ≤ 84 ∧ 8 ≤ 4 ∨ 85 ≤ 77 ∧ 77 ≤ 87 ∧ 12 ≤ 4 by decide)
                                  refine to_an (pc := 5) rw_152_5 rfl (to_an (pc := 6) rw_152_6 rfl ?_)
                                  have c_1084 : M1081.2.1 77 10 = (M821.2.1 77 10) := (W_n W1080 (by decide) (F_n F864 (show ¬ (77 < 0) by decide) rfl))
                                  have b_1085 := g_b hG817 (a := 77) (i := 10) (lo := 0) (hi := 500) rfl rfl
                                  refine tt_gI (pc := 7) rw_152_7 (g_o hG1082 rfl) (v := (M821.2.1 77 10)) c_1084 (s_pI (pc := 10) rw_152_10 hG1082 rfl (fun M1087 W1086 => ?_))
                                  have hG1088 := g_wf hG1082 W1086 rfl rfl (by decide)
                                  have F1089 := FR.w F1083 W1086 (show 77 = 77 ∧ (5 = 4 ∨ 5 = 5 ∨ 7 ≤ 5 ∧ 5 ≤ 10 ∨ 14 ≤ 5 ∧ 5 ≤ 16 ∨ 5 = 25) ∨ 80 ≤ 77 ∧ 77 ≤ 84 ∧ 8 ≤ 5 ∨ 85 ≤ 77 ∧ 77 ≤ 87 ∧ 12 ≤ 5 by decide)
                                  refine to_c (pc := 13) rw_152_13 (x := (0 : Int32)) rfl rfl (s_r1 (pc := 14) rw_152_14 (A := 0) rfl (by decide) (s_r1 (pc := 267) rw_170_267 (A := 0) rfl (by decide) ?_))
                                  have k_1090 : (0 : Int32).toInt = 0 := rfl
                                  have c_1091 : M1087.2.1 77 7 = (M821.2.1 77 7) := (W_n W1086 (by decide) (W_n W1080 (by decide) (F_n F864 (show ¬ (77 < 0) by decide) rfl)))
                                  have t_1092 : (M1087.2.1 77 7).toInt = (M821.2.1 77 7).toInt := congrArg Int32.toInt c_1091
                                  have c_1093 : M1087.2.1 77 6 = (M.2.1 77 6) := (W_n W1086 (by decide) (W_n W1080 (by decide) (F_n F864 (show ¬ (77 < 0) by decide) c_824)))
                                  have t_1094 : (M1087.2.1 77 6).toInt = (M.2.1 77 6).toInt := congrArg Int32.toInt c_1093
                                  have c_1095 : M1087.2.1 77 8 = (M821.2.1 77 8) := (W_n W1086 (by decide) (W_n W1080 (by decide) (F_n F864 (show ¬ (77 < 0) by decide) rfl)))
                                  have t_1096 : (M1087.2.1 77 8).toInt = (M821.2.1 77 8).toInt := congrArg Int32.toInt c_1095
                                  have j_1097 := (FA_f (fun a i z => W_n W1086 (tg_320 a i z) rfl) (FA_f (fun a i z => W_n W1080 (tg_321 a i z) rfl) (FA_f (tg_307 F864) (FA_f (tg_309 F816) (FA_f (tg_307 F804) (FA_f (tg_309 F165) (FA_f (tg_309 F101) (FA_f (tg_310 F85) (FA_f (tg_309 F69) q2)))))))))
                                  have j_1098 := (WR_f (fun a i z => W_n W1086 (by /-r77,5-/ omega) rfl) (WR_f (fun a i z => W_n W1080 (by /-r77,4-/ omega) rfl) (WR_f (tg_308 F864) (WR_f (tg_311 F816) (WR_f (tg_308 F804) (WR_f (tg_311 F165) (WR_f (tg_311 F101) (WR_f (tg_312 F85) (WR_f (tg_311 F69) q3)))))))))
                                  have c_1099 : M1087.2.1 77 4 = (3 : Int32) := (W_n W1086 (by decide) (W_e W1080))
                                  have k_1100 : (3 : Int32).toInt = 3 := rfl
                                  have t_1101 : (M1087.2.1 77 4).toInt = (3 : Int32).toInt := congrArg Int32.toInt c_1099
                                  have c_1102 : M1087.2.1 77 5 = (M821.2.1 77 10) := (W_e W1086)
                                  have t_1103 : (M1087.2.1 77 5).toInt = (M821.2.1 77 10).toInt := congrArg Int32.toInt c_1102
                                  exact h (0 : Int32) M1087 hG1088 F1089 (by decide) (by decide) (by omega) (by omega) (by omega) j_1097 j_1098 (by omega)
                              · refine to_an (pc := 239) rw_170_239 rfl (to_c (pc := 240) rw_170_240 (x := (2 : Int32)) rfl rfl (s_v (pc := 241) rw_170_241 (dp0 hd (by decide)) (ls0 := [.ref 77, .int (2 : Int32)]) rfl (Nat.le_of_ble_eq_true rfl) (Nat.le_of_ble_eq_true rfl) rfl (to_rc rfl rfl rfl (g_o hG817 rfl)) rfl (to_an (pc := 0) rw_152_0 rfl (to_in (pc := 1) rw_152_1 rfl (s_pI (pc := 2) rw_152_2 hG817 rfl (fun M1105 W1104 => ?_))))))
                                have hG1106 := g_wf hG817 W1104 rfl rfl (by decide)
                                have F1107 := FR.w F822 W1104 (show 77 = 77 ∧ (4 = 4 ∨ 4 = 5 ∨ 7 ≤ 4 ∧ 4 ≤ 10 ∨ 14 ≤ 4 ∧ 4 ≤ 16 ∨ 4 = 25) ∨ 80 ≤ 77 ∧ 77 ≤ 84 ∧ 8 ≤ 4 ∨ 85 ≤ 77 ∧ 77 ≤ 87 ∧ 12 ≤ 4 by decide)
                                refine to_an (pc := 5) rw_152_5 rfl (to_an (pc := 6) rw_152_6 rfl ?_)
                                have c_1108 : M1105.2.1 77 10 = (M821.2.1 77 10) := (W_n W1104 (by decide) rfl)
                                have b_1109 := g_b hG817 (a := 77) (i := 10) (lo := 0) (hi := 500) rfl rfl
                                refine tt_gI (pc := 7) rw_152_7 (g_o hG1106 rfl) (v := (M821.2.1 77 10)) c_1108 (s_pI (pc := 10) rw_152_10 hG1106 rfl (fun M1111 W1110 => ?_))
                                have hG1112 := g_wf hG1106 W1110 rfl rfl (by decide)
                                have F1113 := FR.w F1107 W1110 (show 77 = 77 ∧ (5 = 4 ∨ 5 = 5 ∨ 7 ≤ 5 ∧ 5 ≤ 10 ∨ 14 ≤ 5 ∧ 5 ≤ 16 ∨ 5 = 25) ∨ 80 ≤ 77 ∧ 77 ≤ 84 ∧ 8 ≤ 5 ∨ 85 ≤ 77 ∧ 77 ≤ 87 ∧ 12 ≤ 5 by decide)
                                refine to_c (pc := 13) rw_152_13 (x := (0 : Int32)) rfl rfl (s_r1 (pc := 14) rw_152_14 (A := 0) rfl (by decide) (s_r1 (pc := 244) rw_170_244 (A := 0) rfl (by decide) ?_))
                                have k_1114 : (0 : Int32).toInt = 0 := rfl
                                have c_1115 : M1111.2.1 77 7 = (M821.2.1 77 7) := (W_n W1110 (by decide) (W_n W1104 (by decide) rfl))
                                have t_1116 : (M1111.2.1 77 7).toInt = (M821.2.1 77 7).toInt := congrArg Int32.toInt c_1115
                                have c_1117 : M1111.2.1 77 6 = (M.2.1 77 6) := (W_n W1110 (by decide) (W_n W1104 (by decide) c_824))
                                have t_1118 : (M1111.2.1 77 6).toInt = (M.2.1 77 6).toInt := congrArg Int32.toInt c_1117
                                have c_1119 : M1111.2.1 77 8 = (M821.2.1 77 8) := (W_n W1110 (by decide) (W_n W1104 (by decide) rfl))
                                have t_1120 : (M1111.2.1 77 8).toInt = (M821.2.1 77 8).toInt := congrArg Int32.toInt c_1119
                                have j_1121 := (FA_f (fun a i z => W_n W1110 (tg_320 a i z) rfl) (FA_f (fun a i z => W_n W1104 (tg_321 a i z) rfl) (FA_f (tg_309 F816) (FA_f (tg_307 F804) (FA_f (tg_309 F165) (FA_f (tg_309 F101) (FA_f (tg_310 F85) (FA_f (tg_309 F69) q2))))))))
                                have j_1122 := (WR_f (fun a i z => W_n W1110 (by /-r77,5-/ omega) rfl) (WR_f (fun a i z => W_n W1104 (by /-r77,4-/ omega) rfl) (WR_f (tg_311 F816) (WR_f (tg_308 F804) (WR_f (tg_311 F165) (WR_f (tg_311 F101) (WR_f (tg_312 F85) (WR_f (tg_311 F69) q3))))))))
                                have c_1123 : M1111.2.1 77 4 = (2 : Int32) := (W_n W1110 (by decide) (W_e W1104))
                                have k_1124 : (2 : Int32).toInt = 2 := rfl
                                have t_1125 : (M1111.2.1 77 4).toInt = (2 : Int32).toInt := congrArg Int32.toInt c_1123
                                have c_1126 : M1111.2.1 77 5 = (M821.2.1 77 10) := (W_e W1110)
                                have t_1127 : (M1111.2.1 77 5).toInt = (M821.2.1 77 10).toInt := congrArg Int32.toInt c_1126
                                exact h (0 : Int32) M1111 hG1112 F1113 (by decide) (by decide) (by omega) (by omega) (by omega) j_1121 j_1122 (by omega)
                            · refine to_an (pc := 30) rw_162_30 rfl (to_c (pc := 31) rw_162_31 (x := (2 : Int32)) rfl rfl (s_v (pc := 32) rw_162_32 (dp1 hd (by decide)) (ls0 := [.ref 77, .int (2 : Int32)]) rfl (Nat.le_of_ble_eq_true rfl) (Nat.le_of_ble_eq_true rfl) rfl (to_rc rfl rfl rfl (g_o hG817 rfl)) rfl (to_an (pc := 0) rw_152_0 rfl (to_in (pc := 1) rw_152_1 rfl (s_pI (pc := 2) rw_152_2 hG817 rfl (fun M1129 W1128 => ?_))))))
                              have hG1130 := g_wf hG817 W1128 rfl rfl (by decide)
                              have F1131 := FR.w F822 W1128 (show 77 = 77 ∧ (4 = 4 ∨ 4 = 5 ∨ 7 ≤ 4 ∧ 4 ≤ 10 ∨ 14 ≤ 4 ∧ 4 ≤ 16 ∨ 4 = 25) ∨ 80 ≤ 77 ∧ 77 ≤ 84 ∧ 8 ≤ 4 ∨ 85 ≤ 77 ∧ 77 ≤ 87 ∧ 12 ≤ 4 by decide)
                              refine to_an (pc := 5) rw_152_5 rfl (to_an (pc := 6) rw_152_6 rfl ?_)
                              have c_1132 : M1129.2.1 77 10 = (M821.2.1 77 10) := (W_n W1128 (by decide) rfl)
                              have b_1133 := g_b hG817 (a := 77) (i := 10) (lo := 0) (hi := 500) rfl rfl
                              refine tt_gI (pc := 7) rw_152_7 (g_o hG1130 rfl) (v := (M821.2.1 77 10)) c_1132 (s_pI (pc := 10) rw_152_10 hG1130 rfl (fun M1135 W1134 => ?_))
                              have hG1136 := g_wf hG1130 W1134 rfl rfl (by decide)
                              have F1137 := FR.w F1131 W1134 (show 77 = 77 ∧ (5 = 4 ∨ 5 = 5 ∨ 7 ≤ 5 ∧ 5 ≤ 10 ∨ 14 ≤ 5 ∧ 5 ≤ 16 ∨ 5 = 25) ∨ 80 ≤ 77 ∧ 77 ≤ 84 ∧ 8 ≤ 5 ∨ 85 ≤ 77 ∧ 77 ≤ 87 ∧ 12 ≤ 5 by decide)
                              refine to_c (pc := 13) rw_152_13 (x := (0 : Int32)) rfl rfl (s_r1 (pc := 14) rw_152_14 (A := 0) rfl (by decide) (b_ieq_t (pc := 35) rw_162_35 (A := 0) rfl (by decide) (to_c (pc := 42) rw_162_42 (x := (0 : Int32)) rfl rfl (s_r1 (pc := 43) rw_162_43 (A := 0) rfl (by decide) (b_ine_f (pc := 218) rw_170_218 (A := 0) rfl (by decide) (to_c (pc := 221) rw_170_221 (x := (0 : Int32)) rfl rfl (s_r1 (pc := 222) rw_170_222 (A := 0) rfl (by decide) ?_)))))))
                              have k_1138 : (0 : Int32).toInt = 0 := rfl
                              have c_1139 : M1135.2.1 77 7 = (M821.2.1 77 7) := (W_n W1134 (by decide) (W_n W1128 (by decide) rfl))
                              have t_1140 : (M1135.2.1 77 7).toInt = (M821.2.1 77 7).toInt := congrArg Int32.toInt c_1139
                              have c_1141 : M1135.2.1 77 6 = (M.2.1 77 6) := (W_n W1134 (by decide) (W_n W1128 (by decide) c_824))
                              have t_1142 : (M1135.2.1 77 6).toInt = (M.2.1 77 6).toInt := congrArg Int32.toInt c_1141
                              have c_1143 : M1135.2.1 77 8 = (M821.2.1 77 8) := (W_n W1134 (by decide) (W_n W1128 (by decide) rfl))
                              have t_1144 : (M1135.2.1 77 8).toInt = (M821.2.1 77 8).toInt := congrArg Int32.toInt c_1143
                              have j_1145 := (FA_f (fun a i z => W_n W1134 (tg_320 a i z) rfl) (FA_f (fun a i z => W_n W1128 (tg_321 a i z) rfl) (FA_f (tg_309 F816) (FA_f (tg_307 F804) (FA_f (tg_309 F165) (FA_f (tg_309 F101) (FA_f (tg_310 F85) (FA_f (tg_309 F69) q2))))))))
                              have j_1146 := (WR_f (fun a i z => W_n W1134 (by /-r77,5-/ omega) rfl) (WR_f (fun a i z => W_n W1128 (by /-r77,4-/ omega) rfl) (WR_f (tg_311 F816) (WR_f (tg_308 F804) (WR_f (tg_311 F165) (WR_f (tg_311 F101) (WR_f (tg_312 F85) (WR_f (tg_311 F69) q3))))))))
                              have c_1147 : M1135.2.1 77 4 = (2 : Int32) := (W_n W1134 (by decide) (W_e W1128))
                              have k_1148 : (2 : Int32).toInt = 2 := rfl
                              have t_1149 : (M1135.2.1 77 4).toInt = (2 : Int32).toInt := congrArg Int32.toInt c_1147
                              have c_1150 : M1135.2.1 77 5 = (M821.2.1 77 10) := (W_e W1134)
                              have t_1151 : (M1135.2.1 77 5).toInt = (M821.2.1 77 10).toInt := congrArg Int32.toInt c_1150
                              exact h (0 : Int32) M1135 hG1136 F1137 (by decide) (by decide) (by omega) (by omega) (by omega) j_1145 j_1146 (by omega)
                        · refine to_an (pc := 8) rw_162_8 rfl (to_c (pc := 9) rw_162_9 (x := (1 : Int32)) rfl rfl (s_v (pc := 10) rw_162_10 (dp1 hd (by decide)) (ls0 := [.ref 77, .int (1 : Int32)]) rfl (Nat.le_of_ble_eq_true rfl) (Nat.le_of_ble_eq_true rfl) rfl (to_rc rfl rfl rfl (g_o hG817 rfl)) rfl (to_an (pc := 0) rw_152_0 rfl (to_in (pc := 1) rw_152_1 rfl (s_pI (pc := 2) rw_152_2 hG817 rfl (fun M1153 W1152 => ?_))))))
                          have hG1154 := g_wf hG817 W1152 rfl rfl (by decide)
                          have F1155 := FR.w F822 W1152 (show 77 = 77 ∧ (4 = 4 ∨ 4 = 5 ∨ 7 ≤ 4 ∧ 4 ≤ 10 ∨ 14 ≤ 4 ∧ 4 ≤ 16 ∨ 4 = 25) ∨ 80 ≤ 77 ∧ 77 ≤ 84 ∧ 8 ≤ 4 ∨ 85 ≤ 77 ∧ 77 ≤ 87 ∧ 12 ≤ 4 by decide)
                          refine to_an (pc := 5) rw_152_5 rfl (to_an (pc := 6) rw_152_6 rfl ?_)
                          have c_1156 : M1153.2.1 77 10 = (M821.2.1 77 10) := (W_n W1152 (by decide) rfl)
                          have b_1157 := g_b hG817 (a := 77) (i := 10) (lo := 0) (hi := 500) rfl rfl
                          refine tt_gI (pc := 7) rw_152_7 (g_o hG1154 rfl) (v := (M821.2.1 77 10)) c_1156 (s_pI (pc := 10) rw_152_10 hG1154 rfl (fun M1159 W1158 => ?_))
                          have hG1160 := g_wf hG1154 W1158 rfl rfl (by decide)
                          have F1161 := FR.w F1155 W1158 (show 77 = 77 ∧ (5 = 4 ∨ 5 = 5 ∨ 7 ≤ 5 ∧ 5 ≤ 10 ∨ 14 ≤ 5 ∧ 5 ≤ 16 ∨ 5 = 25) ∨ 80 ≤ 77 ∧ 77 ≤ 84 ∧ 8 ≤ 5 ∨ 85 ≤ 77 ∧ 77 ≤ 87 ∧ 12 ≤ 5 by decide)
                          refine to_c (pc := 13) rw_152_13 (x := (0 : Int32)) rfl rfl (s_r1 (pc := 14) rw_152_14 (A := 0) rfl (by decide) (s_r1 (pc := 13) rw_162_13 (A := 0) rfl (by decide) (b_ine_f (pc := 218) rw_170_218 (A := 0) rfl (by decide) (to_c (pc := 221) rw_170_221 (x := (0 : Int32)) rfl rfl (s_r1 (pc := 222) rw_170_222 (A := 0) rfl (by decide) ?_)))))
                          have k_1162 : (0 : Int32).toInt = 0 := rfl
                          have c_1163 : M1159.2.1 77 7 = (M821.2.1 77 7) := (W_n W1158 (by decide) (W_n W1152 (by decide) rfl))
                          have t_1164 : (M1159.2.1 77 7).toInt = (M821.2.1 77 7).toInt := congrArg Int32.toInt c_1163
                          have c_1165 : M1159.2.1 77 6 = (M.2.1 77 6) := (W_n W1158 (by decide) (W_n W1152 (by decide) c_824))
                          have t_1166 : (M1159.2.1 77 6).toInt = (M.2.1 77 6).toInt := congrArg Int32.toInt c_1165
                          have c_1167 : M1159.2.1 77 8 = (M821.2.1 77 8) := (W_n W1158 (by decide) (W_n W1152 (by decide) rfl))
                          have t_1168 : (M1159.2.1 77 8).toInt = (M821.2.1 77 8).toInt := congrArg Int32.toInt c_1167
                          have j_1169 := (FA_f (fun a i z => W_n W1158 (tg_320 a i z) rfl) (FA_f (fun a i z => W_n W1152 (tg_321 a i z) rfl) (FA_f (tg_309 F816) (FA_f (tg_307 F804) (FA_f (tg_309 F165) (FA_f (tg_309 F101) (FA_f (tg_310 F85) (FA_f (tg_309 F69) q2))))))))
                          have j_1170 := (WR_f (fun a i z => W_n W1158 (by /-r77,5-/ omega) rfl) (WR_f (fun a i z => W_n W1152 (by /-r77,4-/ omega) rfl) (WR_f (tg_311 F816) (WR_f (tg_308 F804) (WR_f (tg_311 F165) (WR_f (tg_311 F101) (WR_f (tg_312 F85) (WR_f (tg_311 F69) q3))))))))
                          have c_1171 : M1159.2.1 77 4 = (1 : Int32) := (W_n W1158 (by decide) (W_e W1152))
                          have k_1172 : (1 : Int32).toInt = 1 := rfl
                          have t_1173 : (M1159.2.1 77 4).toInt = (1 : Int32).toInt := congrArg Int32.toInt c_1171
                          have c_1174 : M1159.2.1 77 5 = (M821.2.1 77 10) := (W_e W1158)
                          have t_1175 : (M1159.2.1 77 5).toInt = (M821.2.1 77 10).toInt := congrArg Int32.toInt c_1174
                          exact h (0 : Int32) M1159 hG1160 F1161 (by decide) (by decide) (by omega) (by omega) (by omega) j_1169 j_1170 (by omega)
                      · refine to_an (pc := 169) rw_170_169 rfl (to_c (pc := 170) rw_170_170 (x := (3 : Int32)) rfl rfl (s_v (pc := 171) rw_170_171 (dp0 hd (by decide)) (ls0 := [.ref 77, .int (3 : Int32)]) rfl (Nat.le_of_ble_eq_true rfl) (Nat.le_of_ble_eq_true rfl) rfl (to_rc rfl rfl rfl (g_o hG805 rfl)) rfl (to_an (pc := 0) rw_152_0 rfl (to_in (pc := 1) rw_152_1 rfl (s_pI (pc := 2) rw_152_2 hG805 rfl (fun M1177 W1176 => ?_))))))
                        have hG1178 := g_wf hG805 W1176 rfl rfl (by decide)
                        have F1179 := FR.w F807 W1176 (show 77 = 77 ∧ (4 = 4 ∨ 4 = 5 ∨ 7 ≤ 4 ∧ 4 ≤ 10 ∨ 14 ≤ 4 ∧ 4 ≤ 16 ∨ 4 = 25) ∨ 80 ≤ 77 ∧ 77 ≤ 84 ∧ 8 ≤ 4 ∨ 85 ≤ 77 ∧ 77 ≤ 87 ∧ 12 ≤ 4 by decide)
                        refine to_an (pc := 5) rw_152_5 rfl (to_an (pc := 6) rw_152_6 rfl ?_)
                        have c_1180 : M1177.2.1 77 10 = (M170.2.1 77 10) := (W_n W1176 (by decide) (F_n F804 (show ¬ (77 < 0) by decide) rfl))
                        have b_1181 := g_b hG166 (a := 77) (i := 10) (lo := 0) (hi := 500) rfl rfl
                        refine tt_gI (pc := 7) rw_152_7 (g_o hG1178 rfl) (v := (M170.2.1 77 10)) c_1180 (s_pI (pc := 10) rw_152_10 hG1178 rfl (fun M1183 W1182 => ?_))
                        have hG1184 := g_wf hG1178 W1182 rfl rfl (by decide)
                        have F1185 := FR.w F1179 W1182 (show 77 = 77 ∧ (5 = 4 ∨ 5 = 5 ∨ 7 ≤ 5 ∧ 5 ≤ 10 ∨ 14 ≤ 5 ∧ 5 ≤ 16 ∨ 5 = 25) ∨ 80 ≤ 77 ∧ 77 ≤ 84 ∧ 8 ≤ 5 ∨ 85 ≤ 77 ∧ 77 ≤ 87 ∧ 12 ≤ 5 by decide)
                        refine to_c (pc := 13) rw_152_13 (x := (0 : Int32)) rfl rfl (s_r1 (pc := 14) rw_152_14 (A := 0) rfl (by decide) (s_r1 (pc := 174) rw_170_174 (A := 0) rfl (by decide) ?_))
                        have k_1186 : (0 : Int32).toInt = 0 := rfl
                        have c_1187 : M1183.2.1 77 7 = (M170.2.1 77 7) := (W_n W1182 (by decide) (W_n W1176 (by decide) (F_n F804 (show ¬ (77 < 0) by decide) rfl)))
                        have t_1188 : (M1183.2.1 77 7).toInt = (M170.2.1 77 7).toInt := congrArg Int32.toInt c_1187
                        have c_1189 : M1183.2.1 77 6 = (M.2.1 77 6) := (W_n W1182 (by decide) (W_n W1176 (by decide) (F_n F804 (show ¬ (77 < 0) by decide) c_173)))
                        have t_1190 : (M1183.2.1 77 6).toInt = (M.2.1 77 6).toInt := congrArg Int32.toInt c_1189
                        have c_1191 : M1183.2.1 77 8 = (M170.2.1 77 8) := (W_n W1182 (by decide) (W_n W1176 (by decide) (F_n F804 (show ¬ (77 < 0) by decide) rfl)))
                        have t_1192 : (M1183.2.1 77 8).toInt = (M170.2.1 77 8).toInt := congrArg Int32.toInt c_1191
                        have j_1193 := (FA_f (fun a i z => W_n W1182 (tg_320 a i z) rfl) (FA_f (fun a i z => W_n W1176 (tg_321 a i z) rfl) (FA_f (tg_307 F804) (FA_f (tg_309 F165) (FA_f (tg_309 F101) (FA_f (tg_310 F85) (FA_f (tg_309 F69) q2)))))))
                        have j_1194 := (WR_f (fun a i z => W_n W1182 (by /-r77,5-/ omega) rfl) (WR_f (fun a i z => W_n W1176 (by /-r77,4-/ omega) rfl) (WR_f (tg_308 F804) (WR_f (tg_311 F165) (WR_f (tg_311 F101) (WR_f (tg_312 F85) (WR_f (tg_311 F69) q3)))))))
                        have c_1195 : M1183.2.1 77 4 = (3 : Int32) := (W_n W1182 (by decide) (W_e W1176))
                        have k_1196 : (3 : Int32).toInt = 3 := rfl
                        have t_1197 : (M1183.2.1 77 4).toInt = (3 : Int32).toInt := congrArg Int32.toInt c_1195
                        have c_1198 : M1183.2.1 77 5 = (M170.2.1 77 10) := (W_e W1182)
                        have t_1199 : (M1183.2.1 77 5).toInt = (M170.2.1 77 10).toInt := congrArg Int32.toInt c_1198
                        exact h (0 : Int32) M1183 hG1184 F1185 (by decide) (by decide) (by omega) (by omega) (by omega) j_1193 j_1194 (by omega)
                    · refine to_an (pc := 30) rw_162_30 rfl (to_c (pc := 31) rw_162_31 (x := (2 : Int32)) rfl rfl (s_v (pc := 32) rw_162_32 (dp1 hd (by decide)) (ls0 := [.ref 77, .int (2 : Int32)]) rfl (Nat.le_of_ble_eq_true rfl) (Nat.le_of_ble_eq_true rfl) rfl (to_rc rfl rfl rfl (g_o hG166 rfl)) rfl (to_an (pc := 0) rw_152_0 rfl (to_in (pc := 1) rw_152_1 rfl (s_pI (pc := 2) rw_152_2 hG166 rfl (fun M1201 W1200 => ?_))))))
                      have hG1202 := g_wf hG166 W1200 rfl rfl (by decide)
                      have F1203 := FR.w F171 W1200 (show 77 = 77 ∧ (4 = 4 ∨ 4 = 5 ∨ 7 ≤ 4 ∧ 4 ≤ 10 ∨ 14 ≤ 4 ∧ 4 ≤ 16 ∨ 4 = 25) ∨ 80 ≤ 77 ∧ 77 ≤ 84 ∧ 8 ≤ 4 ∨ 85 ≤ 77 ∧ 77 ≤ 87 ∧ 12 ≤ 4 by decide)
                      refine to_an (pc := 5) rw_152_5 rfl (to_an (pc := 6) rw_152_6 rfl ?_)
                      have c_1204 : M1201.2.1 77 10 = (M170.2.1 77 10) := (W_n W1200 (by decide) rfl)
                      have b_1205 := g_b hG166 (a := 77) (i := 10) (lo := 0) (hi := 500) rfl rfl
                      refine tt_gI (pc := 7) rw_152_7 (g_o hG1202 rfl) (v := (M170.2.1 77 10)) c_1204 (s_pI (pc := 10) rw_152_10 hG1202 rfl (fun M1207 W1206 => ?_))
                      have hG1208 := g_wf hG1202 W1206 rfl rfl (by decide)
                      have F1209 := FR.w F1203 W1206 (show 77 = 77 ∧ (5 = 4 ∨ 5 = 5 ∨ 7 ≤ 5 ∧ 5 ≤ 10 ∨ 14 ≤ 5 ∧ 5 ≤ 16 ∨ 5 = 25) ∨ 80 ≤ 77 ∧ 77 ≤ 84 ∧ 8 ≤ 5 ∨ 85 ≤ 77 ∧ 77 ≤ 87 ∧ 12 ≤ 5 by decide)
                      refine to_c (pc := 13) rw_152_13 (x := (0 : Int32)) rfl rfl (s_r1 (pc := 14) rw_152_14 (A := 0) rfl (by decide) (b_ieq_t (pc := 35) rw_162_35 (A := 0) rfl (by decide) (to_c (pc := 42) rw_162_42 (x := (0 : Int32)) rfl rfl (s_r1 (pc := 43) rw_162_43 (A := 0) rfl (by decide) (b_ine_f (pc := 138) rw_170_138 (A := 0) rfl (by decide) (to_c (pc := 141) rw_170_141 (x := (0 : Int32)) rfl rfl (s_r1 (pc := 142) rw_170_142 (A := 0) rfl (by decide) ?_)))))))
                      have k_1210 : (0 : Int32).toInt = 0 := rfl
                      have c_1211 : M1207.2.1 77 7 = (M170.2.1 77 7) := (W_n W1206 (by decide) (W_n W1200 (by decide) rfl))
                      have t_1212 : (M1207.2.1 77 7).toInt = (M170.2.1 77 7).toInt := congrArg Int32.toInt c_1211
                      have c_1213 : M1207.2.1 77 6 = (M.2.1 77 6) := (W_n W1206 (by decide) (W_n W1200 (by decide) c_173))
                      have t_1214 : (M1207.2.1 77 6).toInt = (M.2.1 77 6).toInt := congrArg Int32.toInt c_1213
                      have c_1215 : M1207.2.1 77 8 = (M170.2.1 77 8) := (W_n W1206 (by decide) (W_n W1200 (by decide) rfl))
                      have t_1216 : (M1207.2.1 77 8).toInt = (M170.2.1 77 8).toInt := congrArg Int32.toInt c_1215
                      have j_1217 := (FA_f (fun a i z => W_n W1206 (tg_320 a i z) rfl) (FA_f (fun a i z => W_n W1200 (tg_321 a i z) rfl) (FA_f (tg_309 F165) (FA_f (tg_309 F101) (FA_f (tg_310 F85) (FA_f (tg_309 F69) q2))))))
                      have j_1218 := (WR_f (fun a i z => W_n W1206 (by /-r77,5-/ omega) rfl) (WR_f (fun a i z => W_n W1200 (by /-r77,4-/ omega) rfl) (WR_f (tg_311 F165) (WR_f (tg_311 F101) (WR_f (tg_312 F85) (WR_f (tg_311 F69) q3))))))
                      have c_1219 : M1207.2.1 77 4 = (2 : Int32) := (W_n W1206 (by decide) (W_e W1200))
                      have k_1220 : (2 : Int32).toInt = 2 := rfl
                      have t_1221 : (M1207.2.1 77 4).toInt = (2 : Int32).toInt := congrArg Int32.toInt c_1219
                      have c_1222 : M1207.2.1 77 5 = (M170.2.1 77 10) := (W_e W1206)
                      have t_1223 : (M1207.2.1 77 5).toInt = (M170.2.1 77 10).toInt := congrArg Int32.toInt c_1222
                      exact h (0 : Int32) M1207 hG1208 F1209 (by decide) (by decide) (by omega) (by omega) (by omega) j_1217 j_1218 (by omega)
                · refine to_an (pc := 8) rw_162_8 rfl (to_c (pc := 9) rw_162_9 (x := (1 : Int32)) rfl rfl (s_v (pc := 10) rw_162_10 (dp1 hd (by decide)) (ls0 := [.ref 77, .int (1 : Int32)]) rfl (Nat.le_of_ble_eq_true rfl) (Nat.le_of_ble_eq_true rfl) rfl (to_rc rfl rfl rfl (g_o hG166 rfl)) rfl (to_an (pc := 0) rw_152_0 rfl (to_in (pc := 1) rw_152_1 rfl (s_pI (pc := 2) rw_152_2 hG166 rfl (fun M1225 W1224 => ?_))))))
                  have hG1226 := g_wf hG166 W1224 rfl rfl (by decide)
                  have F1227 := FR.w F171 W1224 (show 77 = 77 ∧ (4 = 4 ∨ 4 = 5 ∨ 7 ≤ 4 ∧ 4 ≤ 10 ∨ 14 ≤ 4 ∧ 4 ≤ 16 ∨ 4 = 25) ∨ 80 ≤ 77 ∧ 77 ≤ 84 ∧ 8 ≤ 4 ∨ 85 ≤ 77 ∧ 77 ≤ 87 ∧ 12 ≤ 4 by decide)
                  refine to_an (pc := 5) rw_152_5 rfl (to_an (pc := 6) rw_152_6 rfl ?_)
                  have c_1228 : M1225.2.1 77 10 = (M170.2.1 77 10) := (W_n W1224 (by decide) rfl)
                  have b_1229 := g_b hG166 (a := 77) (i := 10) (lo := 0) (hi := 500) rfl rfl
                  refine tt_gI (pc := 7) rw_152_7 (g_o hG1226 rfl) (v := (M170.2.1 77 10)) c_1228 (s_pI (pc := 10) rw_152_10 hG1226 rfl (fun M1231 W1230 => ?_))
                  have hG1232 := g_wf hG1226 W1230 rfl rfl (by decide)
                  have F1233 := FR.w F1227 W1230 (show 77 = 77 ∧ (5 = 4 ∨ 5 = 5 ∨ 7 ≤ 5 ∧ 5 ≤ 10 ∨ 14 ≤ 5 ∧ 5 ≤ 16 ∨ 5 = 25) ∨ 80 ≤ 77 ∧ 77 ≤ 84 ∧ 8 ≤ 5 ∨ 85 ≤ 77 ∧ 77 ≤ 87 ∧ 12 ≤ 5 by decide)
                  refine to_c (pc := 13) rw_152_13 (x := (0 : Int32)) rfl rfl (s_r1 (pc := 14) rw_152_14 (A := 0) rfl (by decide) (s_r1 (pc := 13) rw_162_13 (A := 0) rfl (by decide) (b_ine_f (pc := 138) rw_170_138 (A := 0) rfl (by decide) (to_c (pc := 141) rw_170_141 (x := (0 : Int32)) rfl rfl (s_r1 (pc := 142) rw_170_142 (A := 0) rfl (by decide) ?_)))))
                  have k_1234 : (0 : Int32).toInt = 0 := rfl
                  have c_1235 : M1231.2.1 77 7 = (M170.2.1 77 7) := (W_n W1230 (by decide) (W_n W1224 (by decide) rfl))
                  have t_1236 : (M1231.2.1 77 7).toInt = (M170.2.1 77 7).toInt := congrArg Int32.toInt c_1235
                  have c_1237 : M1231.2.1 77 6 = (M.2.1 77 6) := (W_n W1230 (by decide) (W_n W1224 (by decide) c_173))
                  have t_1238 : (M1231.2.1 77 6).toInt = (M.2.1 77 6).toInt := congrArg Int32.toInt c_1237
                  have c_1239 : M1231.2.1 77 8 = (M170.2.1 77 8) := (W_n W1230 (by decide) (W_n W1224 (by decide) rfl))
                  have t_1240 : (M1231.2.1 77 8).toInt = (M170.2.1 77 8).toInt := congrArg Int32.toInt c_1239
                  have j_1241 := (FA_f (fun a i z => W_n W1230 (tg_320 a i z) rfl) (FA_f (fun a i z => W_n W1224 (tg_321 a i z) rfl) (FA_f (tg_309 F165) (FA_f (tg_309 F101) (FA_f (tg_310 F85) (FA_f (tg_309 F69) q2))))))
                  have j_1242 := (WR_f (fun a i z => W_n W1230 (by /-r77,5-/ omega) rfl) (WR_f (fun a i z => W_n W1224 (by /-r77,4-/ omega) rfl) (WR_f (tg_311 F165) (WR_f (tg_311 F101) (WR_f (tg_312 F85) (WR_f (tg_311 F69) q3))))))
                  have c_1243 : M1231.2.1 77 4 = (1 : Int32) := (W_n W1230 (by decide) (W_e W1224))
                  have k_1244 : (1 : Int32).toInt = 1 := rfl
                  have t_1245 : (M1231.2.1 77 4).toInt = (1 : Int32).toInt := congrArg Int32.toInt c_1243
                  have c_1246 : M1231.2.1 77 5 = (M170.2.1 77 10) := (W_e W1230)
                  have t_1247 : (M1231.2.1 77 5).toInt = (M170.2.1 77 10).toInt := congrArg Int32.toInt c_1246
                  exact h (0 : Int32) M1231 hG1232 F1233 (by decide) (by decide) (by omega) (by omega) (by omega) j_1241 j_1242 (by omega)
          · refine to_an (pc := 70) rw_170_70 rfl (to_c (pc := 71) rw_170_71 (x := (1 : Int32)) rfl rfl (s_v (pc := 72) rw_170_72 (dp0 hd (by decide)) (ls0 := [.ref 77, .int (1 : Int32)]) rfl (Nat.le_of_ble_eq_true rfl) (Nat.le_of_ble_eq_true rfl) rfl (to_rc rfl rfl rfl (g_o hG102 rfl)) rfl (to_an (pc := 0) rw_152_0 rfl (to_in (pc := 1) rw_152_1 rfl (s_pI (pc := 2) rw_152_2 hG102 rfl (fun M1249 W1248 => ?_))))))
            have hG1250 := g_wf hG102 W1248 rfl rfl (by decide)
            have F1251 := FR.w F107 W1248 (show 77 = 77 ∧ (4 = 4 ∨ 4 = 5 ∨ 7 ≤ 4 ∧ 4 ≤ 10 ∨ 14 ≤ 4 ∧ 4 ≤ 16 ∨ 4 = 25) ∨ 80 ≤ 77 ∧ 77 ≤ 84 ∧ 8 ≤ 4 ∨ 85 ≤ 77 ∧ 77 ≤ 87 ∧ 12 ≤ 4 by decide)
            refine to_an (pc := 5) rw_152_5 rfl (to_an (pc := 6) rw_152_6 rfl ?_)
            have c_1252 : M1249.2.1 77 10 = (M106.2.1 77 10) := (W_n W1248 (by decide) rfl)
            have b_1253 := g_b hG102 (a := 77) (i := 10) (lo := 0) (hi := 500) rfl rfl
            refine tt_gI (pc := 7) rw_152_7 (g_o hG1250 rfl) (v := (M106.2.1 77 10)) c_1252 (s_pI (pc := 10) rw_152_10 hG1250 rfl (fun M1255 W1254 => ?_))
            have hG1256 := g_wf hG1250 W1254 rfl rfl (by decide)
            have F1257 := FR.w F1251 W1254 (show 77 = 77 ∧ (5 = 4 ∨ 5 = 5 ∨ 7 ≤ 5 ∧ 5 ≤ 10 ∨ 14 ≤ 5 ∧ 5 ≤ 16 ∨ 5 = 25) ∨ 80 ≤ 77 ∧ 77 ≤ 84 ∧ 8 ≤ 5 ∨ 85 ≤ 77 ∧ 77 ≤ 87 ∧ 12 ≤ 5 by decide)
            refine to_c (pc := 13) rw_152_13 (x := (0 : Int32)) rfl rfl (s_r1 (pc := 14) rw_152_14 (A := 0) rfl (by decide) (s_r1 (pc := 75) rw_170_75 (A := 0) rfl (by decide) ?_))
            have k_1258 : (0 : Int32).toInt = 0 := rfl
            have c_1259 : M1255.2.1 77 7 = (M106.2.1 77 7) := (W_n W1254 (by decide) (W_n W1248 (by decide) rfl))
            have t_1260 : (M1255.2.1 77 7).toInt = (M106.2.1 77 7).toInt := congrArg Int32.toInt c_1259
            have c_1261 : M1255.2.1 77 6 = (M.2.1 77 6) := (W_n W1254 (by decide) (W_n W1248 (by decide) c_109))
            have t_1262 : (M1255.2.1 77 6).toInt = (M.2.1 77 6).toInt := congrArg Int32.toInt c_1261
            have c_1263 : M1255.2.1 77 8 = (M106.2.1 77 8) := (W_n W1254 (by decide) (W_n W1248 (by decide) rfl))
            have t_1264 : (M1255.2.1 77 8).toInt = (M106.2.1 77 8).toInt := congrArg Int32.toInt c_1263
            have j_1265 := (FA_f (fun a i z => W_n W1254 (tg_320 a i z) rfl) (FA_f (fun a i z => W_n W1248 (tg_321 a i z) rfl) (FA_f (tg_309 F101) (FA_f (tg_310 F85) (FA_f (tg_309 F69) q2)))))
            have j_1266 := (WR_f (fun a i z => W_n W1254 (by /-r77,5-/ omega) rfl) (WR_f (fun a i z => W_n W1248 (by /-r77,4-/ omega) rfl) (WR_f (tg_311 F101) (WR_f (tg_312 F85) (WR_f (tg_311 F69) q3)))))
            have c_1267 : M1255.2.1 77 4 = (1 : Int32) := (W_n W1254 (by decide) (W_e W1248))
            have k_1268 : (1 : Int32).toInt = 1 := rfl
            have t_1269 : (M1255.2.1 77 4).toInt = (1 : Int32).toInt := congrArg Int32.toInt c_1267
            have c_1270 : M1255.2.1 77 5 = (M106.2.1 77 10) := (W_e W1254)
            have t_1271 : (M1255.2.1 77 5).toInt = (M106.2.1 77 10).toInt := congrArg Int32.toInt c_1270
            exact h (0 : Int32) M1255 hG1256 F1257 (by decide) (by decide) (by omega) (by omega) (by omega) j_1265 j_1266 (by omega)
    · refine to_c (pc := 26) rw_170_26 (x := (0 : Int32)) rfl rfl (s_r1 (pc := 27) rw_170_27 (A := 0) rfl (by decide) ?_)
      have k_1272 : (0 : Int32).toInt = 0 := rfl
      have c_1273 : M90.2.1 77 7 = (M74.2.1 77 7) := (F_n F85 (show ¬ (77 = 77 ∧ (7 = 4 ∨ 7 = 5)) by decide) rfl)
      have t_1274 : (M90.2.1 77 7).toInt = (M74.2.1 77 7).toInt := congrArg Int32.toInt c_1273
      have c_1275 : M90.2.1 77 6 = (M.2.1 77 6) := (F_n F85 (show ¬ (77 = 77 ∧ (6 = 4 ∨ 6 = 5)) by decide) c_77)
      have t_1276 : (M90.2.1 77 6).toInt = (M.2.1 77 6).toInt := congrArg Int32.toInt c_1275
      have c_1277 : M90.2.1 77 8 = (M74.2.1 77 8) := (F_n F85 (show ¬ (77 = 77 ∧ (8 = 4 ∨ 8 = 5)) by decide) rfl)
      have t_1278 : (M90.2.1 77 8).toInt = (M74.2.1 77 8).toInt := congrArg Int32.toInt c_1277
      have j_1279 := (FA_f (tg_310 F85) (FA_f (tg_309 F69) q2))
      have j_1280 := (WR_f (tg_312 F85) (WR_f (tg_311 F69) q3))
      exact h (0 : Int32) M90 hG86 F91 (by decide) (by decide) (by omega) (by omega) (by omega) j_1279 j_1280 (by omega)
  · refine to_an (pc := 9) rw_170_9 rfl (to_c (pc := 10) rw_170_10 (x := (2 : Int32)) rfl rfl (s_v (pc := 11) rw_170_11 (dp0 hd (by decide)) (ls0 := [.ref 77, .int (2 : Int32)]) rfl (Nat.le_of_ble_eq_true rfl) (Nat.le_of_ble_eq_true rfl) rfl (to_rc rfl rfl rfl (g_o hG rfl)) rfl (to_an (pc := 0) rw_152_0 rfl (to_in (pc := 1) rw_152_1 rfl (s_pI (pc := 2) rw_152_2 hG rfl (fun M1282 W1281 => ?_))))))
    have hG1283 := g_wf hG W1281 rfl rfl (by decide)
    have F1284 := FR.w F0 W1281 (show 77 = 77 ∧ (4 = 4 ∨ 4 = 5 ∨ 7 ≤ 4 ∧ 4 ≤ 10 ∨ 14 ≤ 4 ∧ 4 ≤ 16 ∨ 4 = 25) ∨ 80 ≤ 77 ∧ 77 ≤ 84 ∧ 8 ≤ 4 ∨ 85 ≤ 77 ∧ 77 ≤ 87 ∧ 12 ≤ 4 by decide)
    refine to_an (pc := 5) rw_152_5 rfl (to_an (pc := 6) rw_152_6 rfl ?_)
    have c_1285 : M1282.2.1 77 10 = (M.2.1 77 10) := (W_n W1281 (by decide) rfl)
    have b_1286 := g_b hG (a := 77) (i := 10) (lo := 0) (hi := 500) rfl rfl
    refine tt_gI (pc := 7) rw_152_7 (g_o hG1283 rfl) (v := (M.2.1 77 10)) c_1285 (s_pI (pc := 10) rw_152_10 hG1283 rfl (fun M1288 W1287 => ?_))
    have hG1289 := g_wf hG1283 W1287 rfl rfl (by decide)
    have F1290 := FR.w F1284 W1287 (show 77 = 77 ∧ (5 = 4 ∨ 5 = 5 ∨ 7 ≤ 5 ∧ 5 ≤ 10 ∨ 14 ≤ 5 ∧ 5 ≤ 16 ∨ 5 = 25) ∨ 80 ≤ 77 ∧ 77 ≤ 84 ∧ 8 ≤ 5 ∨ 85 ≤ 77 ∧ 77 ≤ 87 ∧ 12 ≤ 5 by decide)
    refine to_c (pc := 13) rw_152_13 (x := (0 : Int32)) rfl rfl (s_r1 (pc := 14) rw_152_14 (A := 0) rfl (by decide) (s_r1 (pc := 14) rw_170_14 (A := 0) rfl (by decide) ?_))
    have k_1291 : (0 : Int32).toInt = 0 := rfl
    have c_1292 : M1288.2.1 77 7 = (M.2.1 77 7) := (W_n W1287 (by decide) (W_n W1281 (by decide) rfl))
    have t_1293 : (M1288.2.1 77 7).toInt = (M.2.1 77 7).toInt := congrArg Int32.toInt c_1292
    have c_1294 : M1288.2.1 77 6 = (M.2.1 77 6) := (W_n W1287 (by decide) (W_n W1281 (by decide) rfl))
    have t_1295 : (M1288.2.1 77 6).toInt = (M.2.1 77 6).toInt := congrArg Int32.toInt c_1294
    have c_1296 : M1288.2.1 77 8 = (M.2.1 77 8) := (W_n W1287 (by decide) (W_n W1281 (by decide) rfl))
    have b_1297 := g_b hG (a := 77) (i := 8) (lo := 0) (hi := 5) rfl rfl
    have t_1298 : (M1288.2.1 77 8).toInt = (M.2.1 77 8).toInt := congrArg Int32.toInt c_1296
    have j_1299 := (FA_f (fun a i z => W_n W1287 (tg_320 a i z) rfl) (FA_f (fun a i z => W_n W1281 (tg_321 a i z) rfl) q2))
    have j_1300 := (WR_f (fun a i z => W_n W1287 (by /-r77,5-/ omega) rfl) (WR_f (fun a i z => W_n W1281 (by /-r77,4-/ omega) rfl) q3))
    have c_1301 : M1288.2.1 77 4 = (2 : Int32) := (W_n W1287 (by decide) (W_e W1281))
    have k_1302 : (2 : Int32).toInt = 2 := rfl
    have t_1303 : (M1288.2.1 77 4).toInt = (2 : Int32).toInt := congrArg Int32.toInt c_1301
    have c_1304 : M1288.2.1 77 5 = (M.2.1 77 10) := (W_e W1287)
    have t_1305 : (M1288.2.1 77 5).toInt = (M.2.1 77 10).toInt := congrArg Int32.toInt c_1304
    exact h (0 : Int32) M1288 hG1289 F1290 (by decide) (by decide) (by omega) (by omega) (by omega) j_1299 j_1300 (by omega)
set_option maxRecDepth 4000 in
set_option maxHeartbeats 0 in
theorem T_171_0 {X : mm_X} {d : Nat} {M : mm_M} {Q : Option Value → mm_M → Prop} (hX : g_X X) (hd : 3 ≤ d) (q1 : (M.2.1 77 7).toInt ≤ (M.2.1 77 6).toInt) (q2 : WR M) (h : ∀ (r : Int32) (M1 : mm_M), g_G M1 → FR md_wl M M1 → (0 ≤ r.toInt) → (r.toInt ≤ 1) → ((M1.2.1 77 7).toInt ≤ (M1.2.1 77 6).toInt) → ((M.2.1 77 7).toInt ≤ (M1.2.1 77 7).toInt) → (r.toInt = 1 → (M1.2.1 77 8).toInt = 0 ∨ (M.2.1 77 7).toInt < (M1.2.1 77 7).toInt) → WR M1 → (r.toInt = 1 → (M1.2.1 77 4).toInt = (M.2.1 77 4).toInt ∧ (M1.2.1 77 5).toInt = (M.2.1 77 5).toInt) → Q (some (.int r)) M1) : ∀ nn9 : Nat, (∀ (N : mm_M) (x1 : Int32) (x2 : Int32) (x3 : Int32) (y4 : Int64), g_G N → FR md_wl M N → (0 ≤ x1.toInt) → (x1.toInt ≤ 7) → (x1.toInt < (N.2.1 77 15).toInt) → ((N.2.1 77 16).toInt ≤ 11) → ((N.2.1 77 7).toInt ≤ (N.2.1 77 6).toInt) → ((M.2.1 77 7).toInt ≤ (N.2.1 77 7).toInt) → ((N.2.1 81 (8 + (x1.toInt).toNat)).toInt = 3) → ((N.2.1 77 8).toInt = 0 ∨ (M.2.1 77 7).toInt < (N.2.1 77 7).toInt) → (WR N) → ((N.2.1 77 4).toInt = (M.2.1 77 4).toInt ∧ (N.2.1 77 5).toInt = (M.2.1 77 5).toInt) → 6 * (500 - (N.2.1 77 7).toInt) + (N.2.1 77 8).toInt < (nn9 : Int) → mm_T X d 170 106 [.ref 77, .int x1, .int x2, .int x3, .long y4, .null] [] N Q) := by
  intro nn9
  induction nn9 with
  | zero =>
    intro N x1 x2 x3 y4 hG F0 g1 g2 g3 g4 g5 g6 g7 g8 g9 g10 hm
    have b_1 := g_b hG (a := 77) (i := 7) (lo := 0) (hi := 500) rfl rfl
    have b_2 := g_b hG (a := 77) (i := 8) (lo := 0) (hi := 5) rfl rfl
    have b_3 := g_b hG (a := 77) (i := 15) (lo := 0) (hi := 8) rfl rfl
    have b_4 := g_b hG (a := 77) (i := 16) (lo := 0) (hi := 12) rfl rfl
    have b_5 := g_b hG (a := 77) (i := 6) (lo := 0) (hi := 500) rfl rfl
    exfalso; omega
  | succ nn9 ih =>
    intro N x1 x2 x3 y4 hG F0 g1 g2 g3 g4 g5 g6 g7 g8 g9 g10 hm
    have b_6 := g_b hG (a := 77) (i := 7) (lo := 0) (hi := 500) rfl rfl
    have b_7 := g_b hG (a := 77) (i := 8) (lo := 0) (hi := 5) rfl rfl
    have b_8 := g_b hG (a := 77) (i := 15) (lo := 0) (hi := 8) rfl rfl
    have b_9 := g_b hG (a := 77) (i := 16) (lo := 0) (hi := 12) rfl rfl
    have b_10 := g_b hG (a := 77) (i := 6) (lo := 0) (hi := 500) rfl rfl
    refine to_an (pc := 106) rw_171_106 rfl (tt_gI (pc := 107) rw_171_107 (g_o hG rfl) (v := (N.2.1 77 8)) rfl (to_c (pc := 110) rw_171_110 (x := (3 : Int32)) rfl rfl (b_cne (pc := 111) rw_171_111 (A := (N.2.1 77 8).toInt) (B := 3) rfl rfl (fun h11 => ?_) (fun h11 => ?_))))
    · refine to_an (pc := 218) rw_171_218 rfl (to_c (pc := 219) rw_171_219 (x := (59 : Int32)) rfl rfl (s_v (pc := 221) rw_171_221 (dp0 hd (by decide)) (ls0 := [.ref 77, .int (59 : Int32)]) rfl (Nat.le_of_ble_eq_true rfl) (Nat.le_of_ble_eq_true rfl) rfl (to_rc rfl rfl rfl (g_o hG rfl)) rfl (to_an (pc := 0) rw_159_0 rfl (tt_gI (pc := 1) rw_159_1 (g_o hG rfl) (v := (N.2.1 77 8)) rfl (to_c (pc := 4) rw_159_4 (x := (4 : Int32)) rfl rfl (b_cne (pc := 5) rw_159_5 (A := (N.2.1 77 8).toInt) (B := 4) rfl rfl (fun h12 => ?_) (fun h12 => ?_)))))))
      · refine to_c (pc := 20) rw_159_20 (x := (0 : Int32)) rfl rfl (s_r1 (pc := 21) rw_159_21 (A := 0) rfl (by decide) (b_ieq_t (pc := 224) rw_171_224 (A := 0) rfl (by decide) (to_an (pc := 246) rw_171_246 rfl (s_gR (pc := 247) rw_171_247 hG rfl (v := 85) rfl (to_c (pc := 250) rw_171_250 (x := (12 : Int32)) rfl rfl (to_an (pc := 252) rw_171_252 rfl (tt_gI (pc := 253) rw_171_253 (g_o hG rfl) (v := (N.2.1 77 16)) rfl (s_add (pc := 256) rw_171_256 (A := 12) (B := (N.2.1 77 16).toInt) rfl rfl (by omega) (fun v13 e14 => to_in (pc := 257) rw_171_257 rfl (s_ias (pc := 258) rw_171_258 hG rfl (n := 24) rfl (A := v13.toInt) rfl (by omega) (by omega) (fun M16 W15 => ?_)))))))))))
        have hG17 := g_wf hG W15 rfl rfl (by decide)
        have F18 := FR.w F0 W15 (show 85 = 77 ∧ ((v13.toInt).toNat = 4 ∨ (v13.toInt).toNat = 5 ∨ 7 ≤ (v13.toInt).toNat ∧ (v13.toInt).toNat ≤ 10 ∨ (v13.toInt).toNat = 16) ∨ 85 ≤ 85 ∧ 85 ≤ 87 ∧ 12 ≤ (v13.toInt).toNat by omega)
        have j_19 := (WR_f (fun a i z => W_n W15 (by /-r85-/ omega) rfl) g9)
        have c_20 : M16.2.1 77 16 = (N.2.1 77 16) := (W_n W15 (fun z => absurd z.1 (by decide)) rfl)
        have t_21 : (M16.2.1 77 16).toInt = (N.2.1 77 16).toInt := congrArg Int32.toInt c_20
        have c_22 : M16.2.1 77 15 = (N.2.1 77 15) := (W_n W15 (fun z => absurd z.1 (by decide)) rfl)
        have t_23 : (M16.2.1 77 15).toInt = (N.2.1 77 15).toInt := congrArg Int32.toInt c_22
        have j_24 : (M16.2.1 81 (8 + (x1.toInt).toNat)).toInt = 3 := by rw [(W_n W15 (by omega) rfl)]; exact g7
        refine to_an (pc := 259) rw_171_259 rfl (s_gR (pc := 260) rw_171_260 hG17 rfl (v := 86) rfl (to_c (pc := 263) rw_171_263 (x := (12 : Int32)) rfl rfl (to_an (pc := 265) rw_171_265 rfl (tt_gI (pc := 266) rw_171_266 (g_o hG17 rfl) (v := (N.2.1 77 16)) c_20 (s_add (pc := 269) rw_171_269 (A := 12) (B := (N.2.1 77 16).toInt) rfl rfl (by omega) (fun v25 e26 => to_in (pc := 270) rw_171_270 rfl (s_ias (pc := 271) rw_171_271 hG17 rfl (n := 24) rfl (A := v25.toInt) rfl (by omega) (by omega) (fun M28 W27 => ?_))))))))
        have hG29 := g_w hG17 W27 (A := x1.toInt) rfl (lo := 0) (hi := 7) rfl rfl (by omega) (by decide)
        have F30 := FR.w F18 W27 (show 86 = 77 ∧ ((v25.toInt).toNat = 4 ∨ (v25.toInt).toNat = 5 ∨ 7 ≤ (v25.toInt).toNat ∧ (v25.toInt).toNat ≤ 10 ∨ (v25.toInt).toNat = 16) ∨ 85 ≤ 86 ∧ 86 ≤ 87 ∧ 12 ≤ (v25.toInt).toNat by omega)
        refine to_an (pc := 272) rw_171_272 rfl (s_gR (pc := 273) rw_171_273 hG29 rfl (v := 87) rfl (to_c (pc := 276) rw_171_276 (x := (12 : Int32)) rfl rfl (to_an (pc := 278) rw_171_278 rfl ?_)))
        have c_31 : M28.2.1 77 16 = (N.2.1 77 16) := (W_n W27 (fun z => absurd z.1 (by decide)) c_20)
        refine tt_gI (pc := 279) rw_171_279 (g_o hG29 rfl) (v := (N.2.1 77 16)) c_31 (s_add (pc := 282) rw_171_282 (A := 12) (B := (N.2.1 77 16).toInt) rfl rfl (by omega) (fun v32 e33 => to_l (pc := 283) rw_171_283 rfl rfl rfl (s_las (pc := 285) rw_171_285 hG29 rfl (n := 24) rfl (A := v32.toInt) rfl (by omega) (by omega) (fun M35 W34 => ?_))))
        have hG36 := g_wl hG29 W34
        have F37 := FR.wl F30 W34 (show 87 = 77 ∧ ((v32.toInt).toNat = 4 ∨ (v32.toInt).toNat = 5 ∨ 7 ≤ (v32.toInt).toNat ∧ (v32.toInt).toNat ≤ 10 ∨ (v32.toInt).toNat = 16) ∨ 85 ≤ 87 ∧ 87 ≤ 87 ∧ 12 ≤ (v32.toInt).toNat by omega)
        refine to_an (pc := 286) rw_171_286 rfl (to_dupr (pc := 287) rw_171_287 ?_)
        have c_38 : M35.2.1 77 16 = (N.2.1 77 16) := (W_l W34 c_31)
        refine tt_gI (pc := 288) rw_171_288 (g_o hG36 rfl) (v := (N.2.1 77 16)) c_38 (to_c (pc := 291) rw_171_291 (x := (1 : Int32)) rfl rfl (s_add (pc := 292) rw_171_292 (A := (N.2.1 77 16).toInt) (B := 1) rfl rfl (by omega) (fun v39 e40 => s_pI (pc := 293) rw_171_293 hG36 rfl (fun M42 W41 => ?_))))
        have hG43 := g_w hG36 W41 (A := v39.toInt) rfl (lo := 0) (hi := 12) rfl rfl (by omega) (by decide)
        have F44 := FR.w F37 W41 (show 77 = 77 ∧ (16 = 4 ∨ 16 = 5 ∨ 7 ≤ 16 ∧ 16 ≤ 10 ∨ 16 = 16) ∨ 85 ≤ 77 ∧ 77 ≤ 87 ∧ 12 ≤ 16 by decide)
        have j_45 := WR_word (M1 := M42) (n := ((M16.2.1 77 16).toInt).toNat) (f := x1) j_19 (by omega) (W_n W41 (by omega) (W_l W34 (W_n W27 (by omega) rfl))) (fun i => (W_n W41 (by omega) (W_l W34 (W_n W27 (by omega) rfl)))) (fun i z => (W_n W41 (by omega) (W_l W34 (W_n W27 (by omega) rfl)))) (by rw [show 12 + ((M16.2.1 77 16).toInt).toNat = (v25.toInt).toNat by omega]; exact (W_n W41 (by omega) (W_l W34 (W_e W27)))) (by have z := congrArg Int32.toInt (W_e W41); omega) (by omega) j_24
        refine to_c (pc := 296) rw_171_296 (x := (1 : Int32)) rfl rfl (s_r1 (pc := 297) rw_171_297 (A := 1) rfl (by decide) ?_)
        have k_46 : (1 : Int32).toInt = 1 := rfl
        have c_47 : M42.2.1 77 7 = (N.2.1 77 7) := (W_n W41 (by decide) (W_l W34 (W_n W27 (fun z => absurd z.1 (by decide)) (W_n W15 (fun z => absurd z.1 (by decide)) rfl))))
        have t_48 : (M42.2.1 77 7).toInt = (N.2.1 77 7).toInt := congrArg Int32.toInt c_47
        have c_49 : M42.2.1 77 6 = (N.2.1 77 6) := (W_n W41 (by decide) (W_l W34 (W_n W27 (fun z => absurd z.1 (by decide)) (W_n W15 (fun z => absurd z.1 (by decide)) rfl))))
        have t_50 : (M42.2.1 77 6).toInt = (N.2.1 77 6).toInt := congrArg Int32.toInt c_49
        have c_51 : M42.2.1 77 8 = (N.2.1 77 8) := (W_n W41 (by decide) (W_l W34 (W_n W27 (fun z => absurd z.1 (by decide)) (W_n W15 (fun z => absurd z.1 (by decide)) rfl))))
        have t_52 : (M42.2.1 77 8).toInt = (N.2.1 77 8).toInt := congrArg Int32.toInt c_51
        have c_53 : M42.2.1 77 4 = (N.2.1 77 4) := (W_n W41 (by decide) (W_l W34 (W_n W27 (fun z => absurd z.1 (by decide)) (W_n W15 (fun z => absurd z.1 (by decide)) rfl))))
        have t_54 : (M42.2.1 77 4).toInt = (N.2.1 77 4).toInt := congrArg Int32.toInt c_53
        have c_55 : M42.2.1 77 5 = (N.2.1 77 5) := (W_n W41 (by decide) (W_l W34 (W_n W27 (fun z => absurd z.1 (by decide)) (W_n W15 (fun z => absurd z.1 (by decide)) rfl))))
        have t_56 : (M42.2.1 77 5).toInt = (N.2.1 77 5).toInt := congrArg Int32.toInt c_55
        exact h (1 : Int32) M42 hG43 F44 (by decide) (by decide) (by omega) (by omega) (by omega) j_45 (by omega)
      · refine to_an (pc := 8) rw_159_8 rfl (tt_gI (pc := 9) rw_159_9 (g_o hG rfl) (v := (N.2.1 77 9)) rfl (to_in (pc := 12) rw_159_12 rfl (b_cne (pc := 13) rw_159_13 (A := (N.2.1 77 9).toInt) (B := 59) rfl rfl (fun h57 => ?_) (fun h57 => ?_))))
        · refine to_c (pc := 20) rw_159_20 (x := (0 : Int32)) rfl rfl (s_r1 (pc := 21) rw_159_21 (A := 0) rfl (by decide) (b_ieq_t (pc := 224) rw_171_224 (A := 0) rfl (by decide) (to_an (pc := 246) rw_171_246 rfl (s_gR (pc := 247) rw_171_247 hG rfl (v := 85) rfl (to_c (pc := 250) rw_171_250 (x := (12 : Int32)) rfl rfl (to_an (pc := 252) rw_171_252 rfl (tt_gI (pc := 253) rw_171_253 (g_o hG rfl) (v := (N.2.1 77 16)) rfl (s_add (pc := 256) rw_171_256 (A := 12) (B := (N.2.1 77 16).toInt) rfl rfl (by omega) (fun v58 e59 => to_in (pc := 257) rw_171_257 rfl (s_ias (pc := 258) rw_171_258 hG rfl (n := 24) rfl (A := v58.toInt) rfl (by omega) (by omega) (fun M61 W60 => ?_)))))))))))
          have hG62 := g_wf hG W60 rfl rfl (by decide)
          have F63 := FR.w F0 W60 (show 85 = 77 ∧ ((v58.toInt).toNat = 4 ∨ (v58.toInt).toNat = 5 ∨ 7 ≤ (v58.toInt).toNat ∧ (v58.toInt).toNat ≤ 10 ∨ (v58.toInt).toNat = 16) ∨ 85 ≤ 85 ∧ 85 ≤ 87 ∧ 12 ≤ (v58.toInt).toNat by omega)
          have j_64 := (WR_f (fun a i z => W_n W60 (by /-r85-/ omega) rfl) g9)
          have c_65 : M61.2.1 77 16 = (N.2.1 77 16) := (W_n W60 (fun z => absurd z.1 (by decide)) rfl)
          have t_66 : (M61.2.1 77 16).toInt = (N.2.1 77 16).toInt := congrArg Int32.toInt c_65
          have c_67 : M61.2.1 77 15 = (N.2.1 77 15) := (W_n W60 (fun z => absurd z.1 (by decide)) rfl)
          have t_68 : (M61.2.1 77 15).toInt = (N.2.1 77 15).toInt := congrArg Int32.toInt c_67
          have j_69 : (M61.2.1 81 (8 + (x1.toInt).toNat)).toInt = 3 := by rw [(W_n W60 (by omega) rfl)]; exact g7
          refine to_an (pc := 259) rw_171_259 rfl (s_gR (pc := 260) rw_171_260 hG62 rfl (v := 86) rfl (to_c (pc := 263) rw_171_263 (x := (12 : Int32)) rfl rfl (to_an (pc := 265) rw_171_265 rfl (tt_gI (pc := 266) rw_171_266 (g_o hG62 rfl) (v := (N.2.1 77 16)) c_65 (s_add (pc := 269) rw_171_269 (A := 12) (B := (N.2.1 77 16).toInt) rfl rfl (by omega) (fun v70 e71 => to_in (pc := 270) rw_171_270 rfl (s_ias (pc := 271) rw_171_271 hG62 rfl (n := 24) rfl (A := v70.toInt) rfl (by omega) (by omega) (fun M73 W72 => ?_))))))))
          have hG74 := g_w hG62 W72 (A := x1.toInt) rfl (lo := 0) (hi := 7) rfl rfl (by omega) (by decide)
          have F75 := FR.w F63 W72 (show 86 = 77 ∧ ((v70.toInt).toNat = 4 ∨ (v70.toInt).toNat = 5 ∨ 7 ≤ (v70.toInt).toNat ∧ (v70.toInt).toNat ≤ 10 ∨ (v70.toInt).toNat = 16) ∨ 85 ≤ 86 ∧ 86 ≤ 87 ∧ 12 ≤ (v70.toInt).toNat by omega)
          refine to_an (pc := 272) rw_171_272 rfl (s_gR (pc := 273) rw_171_273 hG74 rfl (v := 87) rfl (to_c (pc := 276) rw_171_276 (x := (12 : Int32)) rfl rfl (to_an (pc := 278) rw_171_278 rfl ?_)))
          have c_76 : M73.2.1 77 16 = (N.2.1 77 16) := (W_n W72 (fun z => absurd z.1 (by decide)) c_65)
          refine tt_gI (pc := 279) rw_171_279 (g_o hG74 rfl) (v := (N.2.1 77 16)) c_76 (s_add (pc := 282) rw_171_282 (A := 12) (B := (N.2.1 77 16).toInt) rfl rfl (by omega) (fun v77 e78 => to_l (pc := 283) rw_171_283 rfl rfl rfl (s_las (pc := 285) rw_171_285 hG74 rfl (n := 24) rfl (A := v77.toInt) rfl (by omega) (by omega) (fun M80 W79 => ?_))))
          have hG81 := g_wl hG74 W79
          have F82 := FR.wl F75 W79 (show 87 = 77 ∧ ((v77.toInt).toNat = 4 ∨ (v77.toInt).toNat = 5 ∨ 7 ≤ (v77.toInt).toNat ∧ (v77.toInt).toNat ≤ 10 ∨ (v77.toInt).toNat = 16) ∨ 85 ≤ 87 ∧ 87 ≤ 87 ∧ 12 ≤ (v77.toInt).toNat by omega)
          refine to_an (pc := 286) rw_171_286 rfl (to_dupr (pc := 287) rw_171_287 ?_)
          have c_83 : M80.2.1 77 16 = (N.2.1 77 16) := (W_l W79 c_76)
          refine tt_gI (pc := 288) rw_171_288 (g_o hG81 rfl) (v := (N.2.1 77 16)) c_83 (to_c (pc := 291) rw_171_291 (x := (1 : Int32)) rfl rfl (s_add (pc := 292) rw_171_292 (A := (N.2.1 77 16).toInt) (B := 1) rfl rfl (by omega) (fun v84 e85 => s_pI (pc := 293) rw_171_293 hG81 rfl (fun M87 W86 => ?_))))
          have hG88 := g_w hG81 W86 (A := v84.toInt) rfl (lo := 0) (hi := 12) rfl rfl (by omega) (by decide)
          have F89 := FR.w F82 W86 (show 77 = 77 ∧ (16 = 4 ∨ 16 = 5 ∨ 7 ≤ 16 ∧ 16 ≤ 10 ∨ 16 = 16) ∨ 85 ≤ 77 ∧ 77 ≤ 87 ∧ 12 ≤ 16 by decide)
          have j_90 := WR_word (M1 := M87) (n := ((M61.2.1 77 16).toInt).toNat) (f := x1) j_64 (by omega) (W_n W86 (by omega) (W_l W79 (W_n W72 (by omega) rfl))) (fun i => (W_n W86 (by omega) (W_l W79 (W_n W72 (by omega) rfl)))) (fun i z => (W_n W86 (by omega) (W_l W79 (W_n W72 (by omega) rfl)))) (by rw [show 12 + ((M61.2.1 77 16).toInt).toNat = (v70.toInt).toNat by omega]; exact (W_n W86 (by omega) (W_l W79 (W_e W72)))) (by have z := congrArg Int32.toInt (W_e W86); omega) (by omega) j_69
          refine to_c (pc := 296) rw_171_296 (x := (1 : Int32)) rfl rfl (s_r1 (pc := 297) rw_171_297 (A := 1) rfl (by decide) ?_)
          have k_91 : (1 : Int32).toInt = 1 := rfl
          have c_92 : M87.2.1 77 7 = (N.2.1 77 7) := (W_n W86 (by decide) (W_l W79 (W_n W72 (fun z => absurd z.1 (by decide)) (W_n W60 (fun z => absurd z.1 (by decide)) rfl))))
          have t_93 : (M87.2.1 77 7).toInt = (N.2.1 77 7).toInt := congrArg Int32.toInt c_92
          have c_94 : M87.2.1 77 6 = (N.2.1 77 6) := (W_n W86 (by decide) (W_l W79 (W_n W72 (fun z => absurd z.1 (by decide)) (W_n W60 (fun z => absurd z.1 (by decide)) rfl))))
          have t_95 : (M87.2.1 77 6).toInt = (N.2.1 77 6).toInt := congrArg Int32.toInt c_94
          have c_96 : M87.2.1 77 8 = (N.2.1 77 8) := (W_n W86 (by decide) (W_l W79 (W_n W72 (fun z => absurd z.1 (by decide)) (W_n W60 (fun z => absurd z.1 (by decide)) rfl))))
          have t_97 : (M87.2.1 77 8).toInt = (N.2.1 77 8).toInt := congrArg Int32.toInt c_96
          have c_98 : M87.2.1 77 4 = (N.2.1 77 4) := (W_n W86 (by decide) (W_l W79 (W_n W72 (fun z => absurd z.1 (by decide)) (W_n W60 (fun z => absurd z.1 (by decide)) rfl))))
          have t_99 : (M87.2.1 77 4).toInt = (N.2.1 77 4).toInt := congrArg Int32.toInt c_98
          have c_100 : M87.2.1 77 5 = (N.2.1 77 5) := (W_n W86 (by decide) (W_l W79 (W_n W72 (fun z => absurd z.1 (by decide)) (W_n W60 (fun z => absurd z.1 (by decide)) rfl))))
          have t_101 : (M87.2.1 77 5).toInt = (N.2.1 77 5).toInt := congrArg Int32.toInt c_100
          exact h (1 : Int32) M87 hG88 F89 (by decide) (by decide) (by omega) (by omega) (by omega) j_90 (by omega)
        · refine to_c (pc := 16) rw_159_16 (x := (1 : Int32)) rfl rfl (to_go (pc := 17) rw_159_17 (s_r1 (pc := 21) rw_159_21 (A := 1) rfl (by decide) (b_ieq_f (pc := 224) rw_171_224 (A := 1) rfl (by decide) (to_in (pc := 227) rw_171_227 rfl (to_an (pc := 228) rw_171_228 rfl (s_gR (pc := 229) rw_171_229 hG rfl (v := 84) rfl (to_c (pc := 232) rw_171_232 (x := (8 : Int32)) rfl rfl (to_in (pc := 234) rw_171_234 rfl (s_add (pc := 235) rw_171_235 (A := 8) (B := x1.toInt) rfl rfl (by omega) (fun v102 e103 => s_ial (pc := 236) rw_171_236 hG rfl (n := 16) rfl rfl (A := v102.toInt) rfl (by omega) (by omega) (lo := 0) (hi := 24) rfl rfl (fun v104 w_105 _ _ => b_cge (pc := 237) rw_171_237 (A := x3.toInt) (B := v104.toInt) rfl rfl (fun h106 => ?_) (fun h106 => ?_))))))))))))
          · refine to_an (pc := 246) rw_171_246 rfl (s_gR (pc := 247) rw_171_247 hG rfl (v := 85) rfl (to_c (pc := 250) rw_171_250 (x := (12 : Int32)) rfl rfl (to_an (pc := 252) rw_171_252 rfl (tt_gI (pc := 253) rw_171_253 (g_o hG rfl) (v := (N.2.1 77 16)) rfl (s_add (pc := 256) rw_171_256 (A := 12) (B := (N.2.1 77 16).toInt) rfl rfl (by omega) (fun v107 e108 => to_in (pc := 257) rw_171_257 rfl (s_ias (pc := 258) rw_171_258 hG rfl (n := 24) rfl (A := v107.toInt) rfl (by omega) (by omega) (fun M110 W109 => ?_))))))))
            have hG111 := g_wf hG W109 rfl rfl (by decide)
            have F112 := FR.w F0 W109 (show 85 = 77 ∧ ((v107.toInt).toNat = 4 ∨ (v107.toInt).toNat = 5 ∨ 7 ≤ (v107.toInt).toNat ∧ (v107.toInt).toNat ≤ 10 ∨ (v107.toInt).toNat = 16) ∨ 85 ≤ 85 ∧ 85 ≤ 87 ∧ 12 ≤ (v107.toInt).toNat by omega)
            have j_113 := (WR_f (fun a i z => W_n W109 (by /-r85-/ omega) rfl) g9)
            have c_114 : M110.2.1 77 16 = (N.2.1 77 16) := (W_n W109 (fun z => absurd z.1 (by decide)) rfl)
            have t_115 : (M110.2.1 77 16).toInt = (N.2.1 77 16).toInt := congrArg Int32.toInt c_114
            have c_116 : M110.2.1 77 15 = (N.2.1 77 15) := (W_n W109 (fun z => absurd z.1 (by decide)) rfl)
            have t_117 : (M110.2.1 77 15).toInt = (N.2.1 77 15).toInt := congrArg Int32.toInt c_116
            have j_118 : (M110.2.1 81 (8 + (x1.toInt).toNat)).toInt = 3 := by rw [(W_n W109 (by omega) rfl)]; exact g7
            refine to_an (pc := 259) rw_171_259 rfl (s_gR (pc := 260) rw_171_260 hG111 rfl (v := 86) rfl (to_c (pc := 263) rw_171_263 (x := (12 : Int32)) rfl rfl (to_an (pc := 265) rw_171_265 rfl (tt_gI (pc := 266) rw_171_266 (g_o hG111 rfl) (v := (N.2.1 77 16)) c_114 (s_add (pc := 269) rw_171_269 (A := 12) (B := (N.2.1 77 16).toInt) rfl rfl (by omega) (fun v119 e120 => to_in (pc := 270) rw_171_270 rfl (s_ias (pc := 271) rw_171_271 hG111 rfl (n := 24) rfl (A := v119.toInt) rfl (by omega) (by omega) (fun M122 W121 => ?_))))))))
            have hG123 := g_w hG111 W121 (A := x1.toInt) rfl (lo := 0) (hi := 7) rfl rfl (by omega) (by decide)
            have F124 := FR.w F112 W121 (show 86 = 77 ∧ ((v119.toInt).toNat = 4 ∨ (v119.toInt).toNat = 5 ∨ 7 ≤ (v119.toInt).toNat ∧ (v119.toInt).toNat ≤ 10 ∨ (v119.toInt).toNat = 16) ∨ 85 ≤ 86 ∧ 86 ≤ 87 ∧ 12 ≤ (v119.toInt).toNat by omega)
            refine to_an (pc := 272) rw_171_272 rfl (s_gR (pc := 273) rw_171_273 hG123 rfl (v := 87) rfl (to_c (pc := 276) rw_171_276 (x := (12 : Int32)) rfl rfl (to_an (pc := 278) rw_171_278 rfl ?_)))
            have c_125 : M122.2.1 77 16 = (N.2.1 77 16) := (W_n W121 (fun z => absurd z.1 (by decide)) c_114)
            refine tt_gI (pc := 279) rw_171_279 (g_o hG123 rfl) (v := (N.2.1 77 16)) c_125 (s_add (pc := 282) rw_171_282 (A := 12) (B := (N.2.1 77 16).toInt) rfl rfl (by omega) (fun v126 e127 => to_l (pc := 283) rw_171_283 rfl rfl rfl (s_las (pc := 285) rw_171_285 hG123 rfl (n := 24) rfl (A := v126.toInt) rfl (by omega) (by omega) (fun M129 W128 => ?_))))
            have hG130 := g_wl hG123 W128
            have F131 := FR.wl F124 W128 (show 87 = 77 ∧ ((v126.toInt).toNat = 4 ∨ (v126.toInt).toNat = 5 ∨ 7 ≤ (v126.toInt).toNat ∧ (v126.toInt).toNat ≤ 10 ∨ (v126.toInt).toNat = 16) ∨ 85 ≤ 87 ∧ 87 ≤ 87 ∧ 12 ≤ (v126.toInt).toNat by omega)
            refine to_an (pc := 286) rw_171_286 rfl (to_dupr (pc := 287) rw_171_287 ?_)
            have c_132 : M129.2.1 77 16 = (N.2.1 77 16) := (W_l W128 c_125)
            refine tt_gI (pc := 288) rw_171_288 (g_o hG130 rfl) (v := (N.2.1 77 16)) c_132 (to_c (pc := 291) rw_171_291 (x := (1 : Int32)) rfl rfl (s_add (pc := 292) rw_171_292 (A := (N.2.1 77 16).toInt) (B := 1) rfl rfl (by omega) (fun v133 e134 => s_pI (pc := 293) rw_171_293 hG130 rfl (fun M136 W135 => ?_))))
            have hG137 := g_w hG130 W135 (A := v133.toInt) rfl (lo := 0) (hi := 12) rfl rfl (by omega) (by decide)
            have F138 := FR.w F131 W135 (show 77 = 77 ∧ (16 = 4 ∨ 16 = 5 ∨ 7 ≤ 16 ∧ 16 ≤ 10 ∨ 16 = 16) ∨ 85 ≤ 77 ∧ 77 ≤ 87 ∧ 12 ≤ 16 by decide)
            have j_139 := WR_word (M1 := M136) (n := ((M110.2.1 77 16).toInt).toNat) (f := x1) j_113 (by omega) (W_n W135 (by omega) (W_l W128 (W_n W121 (by omega) rfl))) (fun i => (W_n W135 (by omega) (W_l W128 (W_n W121 (by omega) rfl)))) (fun i z => (W_n W135 (by omega) (W_l W128 (W_n W121 (by omega) rfl)))) (by rw [show 12 + ((M110.2.1 77 16).toInt).toNat = (v119.toInt).toNat by omega]; exact (W_n W135 (by omega) (W_l W128 (W_e W121)))) (by have z := congrArg Int32.toInt (W_e W135); omega) (by omega) j_118
            refine to_c (pc := 296) rw_171_296 (x := (1 : Int32)) rfl rfl (s_r1 (pc := 297) rw_171_297 (A := 1) rfl (by decide) ?_)
            have k_140 : (1 : Int32).toInt = 1 := rfl
            have c_141 : M136.2.1 77 7 = (N.2.1 77 7) := (W_n W135 (by decide) (W_l W128 (W_n W121 (fun z => absurd z.1 (by decide)) (W_n W109 (fun z => absurd z.1 (by decide)) rfl))))
            have t_142 : (M136.2.1 77 7).toInt = (N.2.1 77 7).toInt := congrArg Int32.toInt c_141
            have c_143 : M136.2.1 77 6 = (N.2.1 77 6) := (W_n W135 (by decide) (W_l W128 (W_n W121 (fun z => absurd z.1 (by decide)) (W_n W109 (fun z => absurd z.1 (by decide)) rfl))))
            have t_144 : (M136.2.1 77 6).toInt = (N.2.1 77 6).toInt := congrArg Int32.toInt c_143
            have c_145 : M136.2.1 77 8 = (N.2.1 77 8) := (W_n W135 (by decide) (W_l W128 (W_n W121 (fun z => absurd z.1 (by decide)) (W_n W109 (fun z => absurd z.1 (by decide)) rfl))))
            have t_146 : (M136.2.1 77 8).toInt = (N.2.1 77 8).toInt := congrArg Int32.toInt c_145
            have c_147 : M136.2.1 77 4 = (N.2.1 77 4) := (W_n W135 (by decide) (W_l W128 (W_n W121 (fun z => absurd z.1 (by decide)) (W_n W109 (fun z => absurd z.1 (by decide)) rfl))))
            have t_148 : (M136.2.1 77 4).toInt = (N.2.1 77 4).toInt := congrArg Int32.toInt c_147
            have c_149 : M136.2.1 77 5 = (N.2.1 77 5) := (W_n W135 (by decide) (W_l W128 (W_n W121 (fun z => absurd z.1 (by decide)) (W_n W109 (fun z => absurd z.1 (by decide)) rfl))))
            have t_150 : (M136.2.1 77 5).toInt = (N.2.1 77 5).toInt := congrArg Int32.toInt c_149
            exact h (1 : Int32) M136 hG137 F138 (by decide) (by decide) (by omega) (by omega) (by omega) j_139 (by omega)
          · refine to_an (pc := 240) rw_171_240 rfl (to_c (pc := 241) rw_171_241 (x := (5 : Int32)) rfl rfl (s_v (pc := 242) rw_171_242 (dp0 hd (by decide)) (ls0 := [.ref 77, .int (5 : Int32)]) rfl (Nat.le_of_ble_eq_true rfl) (Nat.le_of_ble_eq_true rfl) rfl (to_rc rfl rfl rfl (g_o hG rfl)) rfl (to_an (pc := 0) rw_152_0 rfl (to_in (pc := 1) rw_152_1 rfl (s_pI (pc := 2) rw_152_2 hG rfl (fun M152 W151 => ?_))))))
            have hG153 := g_wf hG W151 rfl rfl (by decide)
            have F154 := FR.w F0 W151 (show 77 = 77 ∧ (4 = 4 ∨ 4 = 5 ∨ 7 ≤ 4 ∧ 4 ≤ 10 ∨ 4 = 16) ∨ 85 ≤ 77 ∧ 77 ≤ 87 ∧ 12 ≤ 4 by decide)
            refine to_an (pc := 5) rw_152_5 rfl (to_an (pc := 6) rw_152_6 rfl ?_)
            have c_155 : M152.2.1 77 10 = (N.2.1 77 10) := (W_n W151 (by decide) rfl)
            have b_156 := g_b hG (a := 77) (i := 10) (lo := 0) (hi := 500) rfl rfl
            refine tt_gI (pc := 7) rw_152_7 (g_o hG153 rfl) (v := (N.2.1 77 10)) c_155 (s_pI (pc := 10) rw_152_10 hG153 rfl (fun M158 W157 => ?_))
            have hG159 := g_wf hG153 W157 rfl rfl (by decide)
            have F160 := FR.w F154 W157 (show 77 = 77 ∧ (5 = 4 ∨ 5 = 5 ∨ 7 ≤ 5 ∧ 5 ≤ 10 ∨ 5 = 16) ∨ 85 ≤ 77 ∧ 77 ≤ 87 ∧ 12 ≤ 5 by decide)
            refine to_c (pc := 13) rw_152_13 (x := (0 : Int32)) rfl rfl (s_r1 (pc := 14) rw_152_14 (A := 0) rfl (by decide) (s_r1 (pc := 245) rw_171_245 (A := 0) rfl (by decide) ?_))
            have k_161 : (0 : Int32).toInt = 0 := rfl
            have c_162 : M158.2.1 77 7 = (N.2.1 77 7) := (W_n W157 (by decide) (W_n W151 (by decide) rfl))
            have t_163 : (M158.2.1 77 7).toInt = (N.2.1 77 7).toInt := congrArg Int32.toInt c_162
            have c_164 : M158.2.1 77 6 = (N.2.1 77 6) := (W_n W157 (by decide) (W_n W151 (by decide) rfl))
            have t_165 : (M158.2.1 77 6).toInt = (N.2.1 77 6).toInt := congrArg Int32.toInt c_164
            have c_166 : M158.2.1 77 8 = (N.2.1 77 8) := (W_n W157 (by decide) (W_n W151 (by decide) rfl))
            have t_167 : (M158.2.1 77 8).toInt = (N.2.1 77 8).toInt := congrArg Int32.toInt c_166
            have j_168 := (WR_f (fun a i z => W_n W157 (by /-r77,5-/ omega) rfl) (WR_f (fun a i z => W_n W151 (by /-r77,4-/ omega) rfl) g9))
            have c_169 : M158.2.1 77 4 = (5 : Int32) := (W_n W157 (by decide) (W_e W151))
            have k_170 : (5 : Int32).toInt = 5 := rfl
            have t_171 : (M158.2.1 77 4).toInt = (5 : Int32).toInt := congrArg Int32.toInt c_169
            have c_172 : M158.2.1 77 5 = (N.2.1 77 10) := (W_e W157)
            have t_173 : (M158.2.1 77 5).toInt = (N.2.1 77 10).toInt := congrArg Int32.toInt c_172
            exact h (0 : Int32) M158 hG159 F160 (by decide) (by decide) (by omega) (by omega) (by omega) j_168 (by omega)
    · refine to_in (pc := 114) rw_171_114 rfl (to_an (pc := 115) rw_171_115 rfl (s_gR (pc := 116) rw_171_116 hG rfl (v := 84) rfl (to_c (pc := 119) rw_171_119 (x := (8 : Int32)) rfl rfl (to_in (pc := 121) rw_171_121 rfl (s_add (pc := 122) rw_171_122 (A := 8) (B := x1.toInt) rfl rfl (by omega) (fun v174 e175 => s_ial (pc := 123) rw_171_123 hG rfl (n := 16) rfl rfl (A := v174.toInt) rfl (by omega) (by omega) (lo := 0) (hi := 24) rfl rfl (fun v176 w_177 _ _ => b_ceq (pc := 124) rw_171_124 (A := x3.toInt) (B := v176.toInt) rfl rfl (fun h178 => ?_) (fun h178 => ?_))))))))
      · refine to_an (pc := 153) rw_171_153 rfl (to_c (pc := 154) rw_171_154 (x := (2 : Int32)) rfl rfl (s_v (pc := 155) rw_171_155 (dp0 hd (by decide)) (ls0 := [.ref 77, .int (2 : Int32)]) rfl (Nat.le_of_ble_eq_true rfl) (Nat.le_of_ble_eq_true rfl) rfl (to_rc rfl rfl rfl (g_o hG rfl)) rfl (to_an (pc := 0) rw_152_0 rfl (to_in (pc := 1) rw_152_1 rfl (s_pI (pc := 2) rw_152_2 hG rfl (fun M180 W179 => ?_))))))
        have hG181 := g_wf hG W179 rfl rfl (by decide)
        have F182 := FR.w F0 W179 (show 77 = 77 ∧ (4 = 4 ∨ 4 = 5 ∨ 7 ≤ 4 ∧ 4 ≤ 10 ∨ 4 = 16) ∨ 85 ≤ 77 ∧ 77 ≤ 87 ∧ 12 ≤ 4 by decide)
        refine to_an (pc := 5) rw_152_5 rfl (to_an (pc := 6) rw_152_6 rfl ?_)
        have c_183 : M180.2.1 77 10 = (N.2.1 77 10) := (W_n W179 (by decide) rfl)
        have b_184 := g_b hG (a := 77) (i := 10) (lo := 0) (hi := 500) rfl rfl
        refine tt_gI (pc := 7) rw_152_7 (g_o hG181 rfl) (v := (N.2.1 77 10)) c_183 (s_pI (pc := 10) rw_152_10 hG181 rfl (fun M186 W185 => ?_))
        have hG187 := g_wf hG181 W185 rfl rfl (by decide)
        have F188 := FR.w F182 W185 (show 77 = 77 ∧ (5 = 4 ∨ 5 = 5 ∨ 7 ≤ 5 ∧ 5 ≤ 10 ∨ 5 = 16) ∨ 85 ≤ 77 ∧ 77 ≤ 87 ∧ 12 ≤ 5 by decide)
        refine to_c (pc := 13) rw_152_13 (x := (0 : Int32)) rfl rfl (s_r1 (pc := 14) rw_152_14 (A := 0) rfl (by decide) (s_r1 (pc := 158) rw_171_158 (A := 0) rfl (by decide) ?_))
        have k_189 : (0 : Int32).toInt = 0 := rfl
        have c_190 : M186.2.1 77 7 = (N.2.1 77 7) := (W_n W185 (by decide) (W_n W179 (by decide) rfl))
        have t_191 : (M186.2.1 77 7).toInt = (N.2.1 77 7).toInt := congrArg Int32.toInt c_190
        have c_192 : M186.2.1 77 6 = (N.2.1 77 6) := (W_n W185 (by decide) (W_n W179 (by decide) rfl))
        have t_193 : (M186.2.1 77 6).toInt = (N.2.1 77 6).toInt := congrArg Int32.toInt c_192
        have c_194 : M186.2.1 77 8 = (N.2.1 77 8) := (W_n W185 (by decide) (W_n W179 (by decide) rfl))
        have t_195 : (M186.2.1 77 8).toInt = (N.2.1 77 8).toInt := congrArg Int32.toInt c_194
        have j_196 := (WR_f (fun a i z => W_n W185 (by /-r77,5-/ omega) rfl) (WR_f (fun a i z => W_n W179 (by /-r77,4-/ omega) rfl) g9))
        have c_197 : M186.2.1 77 4 = (2 : Int32) := (W_n W185 (by decide) (W_e W179))
        have k_198 : (2 : Int32).toInt = 2 := rfl
        have t_199 : (M186.2.1 77 4).toInt = (2 : Int32).toInt := congrArg Int32.toInt c_197
        have c_200 : M186.2.1 77 5 = (N.2.1 77 10) := (W_e W185)
        have t_201 : (M186.2.1 77 5).toInt = (N.2.1 77 10).toInt := congrArg Int32.toInt c_200
        exact h (0 : Int32) M186 hG187 F188 (by decide) (by decide) (by omega) (by omega) (by omega) j_196 (by omega)
      · refine to_an (pc := 127) rw_171_127 rfl (tt_gI (pc := 128) rw_171_128 (g_o hG rfl) (v := (N.2.1 77 9)) rfl (to_an (pc := 131) rw_171_131 rfl (s_gR (pc := 132) rw_171_132 hG rfl (v := 83) rfl (to_c (pc := 135) rw_171_135 (x := (8 : Int32)) rfl rfl (to_in (pc := 137) rw_171_137 rfl (s_add (pc := 138) rw_171_138 (A := 8) (B := x1.toInt) rfl rfl (by omega) (fun v202 e203 => s_ial (pc := 139) rw_171_139 hG rfl (n := 16) rfl rfl (A := v202.toInt) rfl (by omega) (by omega) (lo := 0) (hi := 63) rfl rfl (fun v204 w_205 _ _ => to_an (pc := 140) rw_171_140 rfl (s_gR (pc := 141) rw_171_141 hG rfl (v := 82) rfl (to_c (pc := 144) rw_171_144 (x := (8 : Int32)) rfl rfl (to_in (pc := 146) rw_171_146 rfl ?_)))))))))))
        refine s_add (pc := 147) rw_171_147 (A := 8) (B := x1.toInt) rfl rfl (by omega) (fun v206 e207 => s_ial (pc := 148) rw_171_148 hG rfl (n := 16) rfl rfl (A := v206.toInt) rfl (by omega) (by omega) (lo := 0) (hi := 59) rfl rfl (fun v208 w_209 _ _ => s_sub (pc := 149) rw_171_149 (A := v204.toInt) (B := v208.toInt) rfl rfl (by omega) (fun v210 e211 => b_cle (pc := 150) rw_171_150 (A := (N.2.1 77 9).toInt) (B := v210.toInt) rfl rfl (fun h212 => ?_) (fun h212 => ?_))))
        · refine to_l (pc := 159) rw_171_159 rfl rfl rfl (to_an (pc := 161) rw_171_161 rfl (s_gR (pc := 162) rw_171_162 hG rfl (v := 82) rfl (to_c (pc := 165) rw_171_165 (x := (8 : Int32)) rfl rfl (to_in (pc := 167) rw_171_167 rfl (s_add (pc := 168) rw_171_168 (A := 8) (B := x1.toInt) rfl rfl (by omega) (fun v213 e214 => s_ial (pc := 169) rw_171_169 hG rfl (n := 16) rfl rfl (A := v213.toInt) rfl (by omega) (by omega) (lo := 0) (hi := 59) rfl rfl (fun v215 w_216 _ _ => to_an (pc := 170) rw_171_170 rfl (tt_gI (pc := 171) rw_171_171 (g_o hG rfl) (v := (N.2.1 77 9)) rfl ?_))))))))
          have i_219 := i_of (x := (N.2.1 77 9))
          refine s_add (pc := 174) rw_171_174 (A := v215.toInt) (B := (N.2.1 77 9).toInt) rfl rfl (by omega) (fun v217 e218 => s_s (pc := 175) rw_171_175 (dp0 hd (by decide)) (ls0 := [.long y4, .null, .int v217]) rfl (Nat.le_of_ble_eq_true rfl) (Nat.le_of_ble_eq_true rfl) rfl (to_rcs rfl rfl) rfl (to_ln (pc := 0) rw_150_0 rfl rfl rfl (to_in (pc := 1) rw_150_1 rfl (s_anyS (pc := 2) rw_150_2 (fun _ _ => rfl) (fun l220 => s_cl (pc := 3) rw_150_3 rfl (fun l221 => s_anyL (pc := 4) rw_150_4 (fun _ _ => rfl) (fun l222 => s_cl (pc := 5) rw_150_5 rfl (fun l223 => s_lcmp (pc := 6) rw_150_6 (fun v224 => b_ine (pc := 7) rw_150_7 (A := v224.toInt) rfl (fun h225 => ?_) (fun h225 => ?_))))))))))
          · refine to_c (pc := 14) rw_150_14 (x := (0 : Int32)) rfl rfl (s_r1 (pc := 15) rw_150_15 (A := 0) rfl (by decide) (b_ieq_t (pc := 178) rw_171_178 (A := 0) rfl (by decide) (to_l (pc := 187) rw_171_187 rfl rfl rfl (s_cl (pc := 189) rw_171_189 rfl (fun l226 => to_an (pc := 190) rw_171_190 rfl (s_gR (pc := 191) rw_171_191 hG rfl (v := 82) rfl (to_c (pc := 194) rw_171_194 (x := (8 : Int32)) rfl rfl (to_in (pc := 196) rw_171_196 rfl (s_add (pc := 197) rw_171_197 (A := 8) (B := x1.toInt) rfl rfl (by omega) (fun v227 e228 => s_ial (pc := 198) rw_171_198 hG rfl (n := 16) rfl rfl (A := v227.toInt) rfl (by omega) (by omega) (lo := 0) (hi := 59) rfl rfl (fun v229 w_230 _ _ => to_an (pc := 199) rw_171_199 rfl ?_)))))))))))
            refine tt_gI (pc := 200) rw_171_200 (g_o hG rfl) (v := (N.2.1 77 9)) rfl (s_add (pc := 203) rw_171_203 (A := v229.toInt) (B := (N.2.1 77 9).toInt) rfl rfl (by omega) (fun v231 e232 => s_anyS (pc := 204) rw_171_204 (fun _ _ => rfl) (fun l233 => s_anyL (pc := 205) rw_171_205 (fun _ _ => rfl) (fun l234 => to_ls (pc := 206) rw_171_206 (ls2 := [.ref 77, .int x1, .int x2, .int x3, .long l234, .null]) rfl rfl (s_incx (pc := 208) rw_171_208 (ls2 := fun v => [.ref 77, .int x1, .int x2, .int v, .long l234, .null]) rfl rfl (fun _ => rfl) (fun v235 => to_an (pc := 211) rw_171_211 rfl (s_v (pc := 212) rw_171_212 (dp0 hd (by decide)) (ls0 := [.ref 77]) rfl (Nat.le_of_ble_eq_true rfl) (Nat.le_of_ble_eq_true rfl) rfl (to_rc rfl rfl rfl (g_o hG rfl)) rfl (C_156 hX (dp1 hd (by decide)) hG (by omega)  (fun M242 hG238 F237 p_239 p_240 p_241 => ?_)))))))))
            have F243 := FR.c F0 F237 tg_58
            have b_244 := g_b hG238 (a := 77) (i := 7) (lo := 0) (hi := 500) rfl rfl
            have c_245 : M242.2.1 77 6 = (N.2.1 77 6) := (F_n F237 (show ¬ (77 = 77 ∧ 7 ≤ 6 ∧ 6 ≤ 10) by decide) rfl)
            have t_246 : (M242.2.1 77 6).toInt = (N.2.1 77 6).toInt := congrArg Int32.toInt c_245
            have b_247 := g_b hG238 (a := 77) (i := 8) (lo := 0) (hi := 5) rfl rfl
            refine to_go (pc := 215) rw_171_215 ?_
            have c_248 : M242.2.1 77 15 = (N.2.1 77 15) := (F_n F237 (show ¬ (77 = 77 ∧ 7 ≤ 15 ∧ 15 ≤ 10) by decide) rfl)
            have t_249 : (M242.2.1 77 15).toInt = (N.2.1 77 15).toInt := congrArg Int32.toInt c_248
            have c_250 : M242.2.1 77 16 = (N.2.1 77 16) := (F_n F237 (show ¬ (77 = 77 ∧ 7 ≤ 16 ∧ 16 ≤ 10) by decide) rfl)
            have t_251 : (M242.2.1 77 16).toInt = (N.2.1 77 16).toInt := congrArg Int32.toInt c_250
            have j_252 : (M242.2.1 81 (8 + (x1.toInt).toNat)).toInt = 3 := by rw [(F_n F237 (show ¬ (81 = 77 ∧ 7 ≤ (8 + (x1.toInt).toNat) ∧ (8 + (x1.toInt).toNat) ≤ 10) by omega) rfl)]; exact g7
            have j_253 := (WR_f (tg_311 F237) g9)
            have c_254 : M242.2.1 77 4 = (N.2.1 77 4) := (F_n F237 (show ¬ (77 = 77 ∧ 7 ≤ 4 ∧ 4 ≤ 10) by decide) rfl)
            have t_255 : (M242.2.1 77 4).toInt = (N.2.1 77 4).toInt := congrArg Int32.toInt c_254
            have c_256 : M242.2.1 77 5 = (N.2.1 77 5) := (F_n F237 (show ¬ (77 = 77 ∧ 7 ≤ 5 ∧ 5 ≤ 10) by decide) rfl)
            have t_257 : (M242.2.1 77 5).toInt = (N.2.1 77 5).toInt := congrArg Int32.toInt c_256
            exact ih M242 x1 x2 v235 l234 hG238 F243 (by omega) (by omega) (by omega) (by omega) (by omega) (by omega) j_252 (by omega) j_253 (by omega) (by omega)
          · refine to_c (pc := 10) rw_150_10 (x := (1 : Int32)) rfl rfl (to_go (pc := 11) rw_150_11 (s_r1 (pc := 15) rw_150_15 (A := 1) rfl (by decide) (b_ieq_f (pc := 178) rw_171_178 (A := 1) rfl (by decide) (to_an (pc := 181) rw_171_181 rfl (to_c (pc := 182) rw_171_182 (x := (3 : Int32)) rfl rfl (s_v (pc := 183) rw_171_183 (dp0 hd (by decide)) (ls0 := [.ref 77, .int (3 : Int32)]) rfl (Nat.le_of_ble_eq_true rfl) (Nat.le_of_ble_eq_true rfl) rfl (to_rc rfl rfl rfl (g_o hG rfl)) rfl (to_an (pc := 0) rw_152_0 rfl (to_in (pc := 1) rw_152_1 rfl (s_pI (pc := 2) rw_152_2 hG rfl (fun M259 W258 => ?_))))))))))
            have hG260 := g_wf hG W258 rfl rfl (by decide)
            have F261 := FR.w F0 W258 (show 77 = 77 ∧ (4 = 4 ∨ 4 = 5 ∨ 7 ≤ 4 ∧ 4 ≤ 10 ∨ 4 = 16) ∨ 85 ≤ 77 ∧ 77 ≤ 87 ∧ 12 ≤ 4 by decide)
            refine to_an (pc := 5) rw_152_5 rfl (to_an (pc := 6) rw_152_6 rfl ?_)
            have c_262 : M259.2.1 77 10 = (N.2.1 77 10) := (W_n W258 (by decide) rfl)
            have b_263 := g_b hG (a := 77) (i := 10) (lo := 0) (hi := 500) rfl rfl
            refine tt_gI (pc := 7) rw_152_7 (g_o hG260 rfl) (v := (N.2.1 77 10)) c_262 (s_pI (pc := 10) rw_152_10 hG260 rfl (fun M265 W264 => ?_))
            have hG266 := g_wf hG260 W264 rfl rfl (by decide)
            have F267 := FR.w F261 W264 (show 77 = 77 ∧ (5 = 4 ∨ 5 = 5 ∨ 7 ≤ 5 ∧ 5 ≤ 10 ∨ 5 = 16) ∨ 85 ≤ 77 ∧ 77 ≤ 87 ∧ 12 ≤ 5 by decide)
            refine to_c (pc := 13) rw_152_13 (x := (0 : Int32)) rfl rfl (s_r1 (pc := 14) rw_152_14 (A := 0) rfl (by decide) (s_r1 (pc := 186) rw_171_186 (A := 0) rfl (by decide) ?_))
            have k_268 : (0 : Int32).toInt = 0 := rfl
            have c_269 : M265.2.1 77 7 = (N.2.1 77 7) := (W_n W264 (by decide) (W_n W258 (by decide) rfl))
            have t_270 : (M265.2.1 77 7).toInt = (N.2.1 77 7).toInt := congrArg Int32.toInt c_269
            have c_271 : M265.2.1 77 6 = (N.2.1 77 6) := (W_n W264 (by decide) (W_n W258 (by decide) rfl))
            have t_272 : (M265.2.1 77 6).toInt = (N.2.1 77 6).toInt := congrArg Int32.toInt c_271
            have c_273 : M265.2.1 77 8 = (N.2.1 77 8) := (W_n W264 (by decide) (W_n W258 (by decide) rfl))
            have t_274 : (M265.2.1 77 8).toInt = (N.2.1 77 8).toInt := congrArg Int32.toInt c_273
            have j_275 := (WR_f (fun a i z => W_n W264 (by /-r77,5-/ omega) rfl) (WR_f (fun a i z => W_n W258 (by /-r77,4-/ omega) rfl) g9))
            have c_276 : M265.2.1 77 4 = (3 : Int32) := (W_n W264 (by decide) (W_e W258))
            have k_277 : (3 : Int32).toInt = 3 := rfl
            have t_278 : (M265.2.1 77 4).toInt = (3 : Int32).toInt := congrArg Int32.toInt c_276
            have c_279 : M265.2.1 77 5 = (N.2.1 77 10) := (W_e W264)
            have t_280 : (M265.2.1 77 5).toInt = (N.2.1 77 10).toInt := congrArg Int32.toInt c_279
            exact h (0 : Int32) M265 hG266 F267 (by decide) (by decide) (by omega) (by omega) (by omega) j_275 (by omega)
        · refine to_an (pc := 153) rw_171_153 rfl (to_c (pc := 154) rw_171_154 (x := (2 : Int32)) rfl rfl (s_v (pc := 155) rw_171_155 (dp0 hd (by decide)) (ls0 := [.ref 77, .int (2 : Int32)]) rfl (Nat.le_of_ble_eq_true rfl) (Nat.le_of_ble_eq_true rfl) rfl (to_rc rfl rfl rfl (g_o hG rfl)) rfl (to_an (pc := 0) rw_152_0 rfl (to_in (pc := 1) rw_152_1 rfl (s_pI (pc := 2) rw_152_2 hG rfl (fun M282 W281 => ?_))))))
          have hG283 := g_wf hG W281 rfl rfl (by decide)
          have F284 := FR.w F0 W281 (show 77 = 77 ∧ (4 = 4 ∨ 4 = 5 ∨ 7 ≤ 4 ∧ 4 ≤ 10 ∨ 4 = 16) ∨ 85 ≤ 77 ∧ 77 ≤ 87 ∧ 12 ≤ 4 by decide)
          refine to_an (pc := 5) rw_152_5 rfl (to_an (pc := 6) rw_152_6 rfl ?_)
          have c_285 : M282.2.1 77 10 = (N.2.1 77 10) := (W_n W281 (by decide) rfl)
          have b_286 := g_b hG (a := 77) (i := 10) (lo := 0) (hi := 500) rfl rfl
          refine tt_gI (pc := 7) rw_152_7 (g_o hG283 rfl) (v := (N.2.1 77 10)) c_285 (s_pI (pc := 10) rw_152_10 hG283 rfl (fun M288 W287 => ?_))
          have hG289 := g_wf hG283 W287 rfl rfl (by decide)
          have F290 := FR.w F284 W287 (show 77 = 77 ∧ (5 = 4 ∨ 5 = 5 ∨ 7 ≤ 5 ∧ 5 ≤ 10 ∨ 5 = 16) ∨ 85 ≤ 77 ∧ 77 ≤ 87 ∧ 12 ≤ 5 by decide)
          refine to_c (pc := 13) rw_152_13 (x := (0 : Int32)) rfl rfl (s_r1 (pc := 14) rw_152_14 (A := 0) rfl (by decide) (s_r1 (pc := 158) rw_171_158 (A := 0) rfl (by decide) ?_))
          have k_291 : (0 : Int32).toInt = 0 := rfl
          have c_292 : M288.2.1 77 7 = (N.2.1 77 7) := (W_n W287 (by decide) (W_n W281 (by decide) rfl))
          have t_293 : (M288.2.1 77 7).toInt = (N.2.1 77 7).toInt := congrArg Int32.toInt c_292
          have c_294 : M288.2.1 77 6 = (N.2.1 77 6) := (W_n W287 (by decide) (W_n W281 (by decide) rfl))
          have t_295 : (M288.2.1 77 6).toInt = (N.2.1 77 6).toInt := congrArg Int32.toInt c_294
          have c_296 : M288.2.1 77 8 = (N.2.1 77 8) := (W_n W287 (by decide) (W_n W281 (by decide) rfl))
          have t_297 : (M288.2.1 77 8).toInt = (N.2.1 77 8).toInt := congrArg Int32.toInt c_296
          have j_298 := (WR_f (fun a i z => W_n W287 (by /-r77,5-/ omega) rfl) (WR_f (fun a i z => W_n W281 (by /-r77,4-/ omega) rfl) g9))
          have c_299 : M288.2.1 77 4 = (2 : Int32) := (W_n W287 (by decide) (W_e W281))
          have k_300 : (2 : Int32).toInt = 2 := rfl
          have t_301 : (M288.2.1 77 4).toInt = (2 : Int32).toInt := congrArg Int32.toInt c_299
          have c_302 : M288.2.1 77 5 = (N.2.1 77 10) := (W_e W287)
          have t_303 : (M288.2.1 77 5).toInt = (N.2.1 77 10).toInt := congrArg Int32.toInt c_302
          exact h (0 : Int32) M288 hG289 F290 (by decide) (by decide) (by omega) (by omega) (by omega) j_298 (by omega)
set_option maxRecDepth 4000 in
set_option maxHeartbeats 0 in
theorem C_171 {X : mm_X} {d : Nat} {M : mm_M} {Q : Option Value → mm_M → Prop} (hX : g_X X) (hd : 3 ≤ d) (hG : g_G M) (q1 : (M.2.1 77 7).toInt ≤ (M.2.1 77 6).toInt) (q2 : WR M) (h : ∀ (r : Int32) (M1 : mm_M), g_G M1 → FR md_wl M M1 → (0 ≤ r.toInt) → (r.toInt ≤ 1) → ((M1.2.1 77 7).toInt ≤ (M1.2.1 77 6).toInt) → ((M.2.1 77 7).toInt ≤ (M1.2.1 77 7).toInt) → (r.toInt = 1 → (M1.2.1 77 8).toInt = 0 ∨ (M.2.1 77 7).toInt < (M1.2.1 77 7).toInt) → WR M1 → (r.toInt = 1 → (M1.2.1 77 4).toInt = (M.2.1 77 4).toInt ∧ (M1.2.1 77 5).toInt = (M.2.1 77 5).toInt) → Q (some (.int r)) M1) : mm_T X d 170 0 [.ref 77, .null, .null, .null, .null, .null] [] M Q := by
  have F0 : FR md_wl M M := FR.rf
  have b_304 := g_b hG (a := 77) (i := 7) (lo := 0) (hi := 500) rfl rfl
  have b_305 := g_b hG (a := 77) (i := 6) (lo := 0) (hi := 500) rfl rfl
  refine to_an (pc := 0) rw_171_0 rfl ?_
  have b_306 := g_b hG (a := 77) (i := 16) (lo := 0) (hi := 12) rfl rfl
  refine tt_gI (pc := 1) rw_171_1 (g_o hG rfl) (v := (M.2.1 77 16)) rfl (to_c (pc := 4) rw_171_4 (x := (12 : Int32)) rfl rfl (b_cne (pc := 6) rw_171_6 (A := (M.2.1 77 16).toInt) (B := 12) rfl rfl (fun h307 => ?_) (fun h307 => ?_)))
  · refine to_an (pc := 15) rw_171_15 rfl (s_v (pc := 16) rw_171_16 (dp0 hd (by decide)) (ls0 := [.ref 77]) rfl (Nat.le_of_ble_eq_true rfl) (Nat.le_of_ble_eq_true rfl) rfl (to_rc rfl rfl rfl (g_o hG rfl)) rfl (C_156 hX (dp1 hd (by decide)) hG (by omega)  (fun M313 hG309 F308 p_310 p_311 p_312 => ?_)))
    have F314 := FR.c F0 F308 tg_58
    have b_315 := g_b hG309 (a := 77) (i := 7) (lo := 0) (hi := 500) rfl rfl
    have c_316 : M313.2.1 77 6 = (M.2.1 77 6) := (F_n F308 (show ¬ (77 = 77 ∧ 7 ≤ 6 ∧ 6 ≤ 10) by decide) rfl)
    have t_317 : (M313.2.1 77 6).toInt = (M.2.1 77 6).toInt := congrArg Int32.toInt c_316
    have b_318 := g_b hG309 (a := 77) (i := 8) (lo := 0) (hi := 5) rfl rfl
    refine to_an (pc := 19) rw_171_19 rfl (tt_gI (pc := 20) rw_171_20 (g_o hG309 rfl) (v := (M313.2.1 77 8)) rfl (to_c (pc := 23) rw_171_23 (x := (2 : Int32)) rfl rfl (b_ceq (pc := 24) rw_171_24 (A := (M313.2.1 77 8).toInt) (B := 2) rfl rfl (fun h319 => ?_) (fun h319 => ?_))))
    · refine to_an (pc := 33) rw_171_33 rfl (to_an (pc := 34) rw_171_34 rfl (tt_gI (pc := 35) rw_171_35 (g_o hG309 rfl) (v := (M313.2.1 77 9)) rfl (s_v (pc := 38) rw_171_38 (dp0 hd (by decide)) (ls0 := [.ref 77, .int (M313.2.1 77 9), .null]) rfl (Nat.le_of_ble_eq_true rfl) (Nat.le_of_ble_eq_true rfl) rfl (to_rc rfl rfl rfl (g_o hG309 rfl)) rfl ?_)))
      have c_320 : M313.2.1 77 15 = (M.2.1 77 15) := (F_n F308 (show ¬ (77 = 77 ∧ 7 ≤ 15 ∧ 15 ≤ 10) by decide) rfl)
      have b_321 := g_b hG (a := 77) (i := 15) (lo := 0) (hi := 8) rfl rfl
      have t_322 : (M313.2.1 77 15).toInt = (M.2.1 77 15).toInt := congrArg Int32.toInt c_320
      refine C_166 hX (dp1 hd (by decide)) hG309 (n := (M313.2.1 77 9)) (fun r323 M329 hG325 F324 p_326 p_327 p_328 => ?_)
      have F330 := FR.c F314 F324 tg_59
      refine to_isn (pc := 41) rw_171_41 (ls2 := [.ref 77, .int r323, .null, .null, .null, .null]) rfl rfl (to_in (pc := 42) rw_171_42 rfl (b_ilt (pc := 43) rw_171_43 (A := r323.toInt) rfl (fun h331 => ?_) (fun h331 => ?_)))
      · refine to_an (pc := 59) rw_171_59 rfl (to_c (pc := 60) rw_171_60 (x := (4 : Int32)) rfl rfl (s_v (pc := 61) rw_171_61 (dp0 hd (by decide)) (ls0 := [.ref 77, .int (4 : Int32)]) rfl (Nat.le_of_ble_eq_true rfl) (Nat.le_of_ble_eq_true rfl) rfl (to_rc rfl rfl rfl (g_o hG325 rfl)) rfl (to_an (pc := 0) rw_152_0 rfl (to_in (pc := 1) rw_152_1 rfl (s_pI (pc := 2) rw_152_2 hG325 rfl (fun M333 W332 => ?_))))))
        have hG334 := g_wf hG325 W332 rfl rfl (by decide)
        have F335 := FR.w F330 W332 (show 77 = 77 ∧ (4 = 4 ∨ 4 = 5 ∨ 7 ≤ 4 ∧ 4 ≤ 10 ∨ 4 = 16) ∨ 85 ≤ 77 ∧ 77 ≤ 87 ∧ 12 ≤ 4 by decide)
        refine to_an (pc := 5) rw_152_5 rfl (to_an (pc := 6) rw_152_6 rfl ?_)
        have c_336 : M333.2.1 77 10 = (M313.2.1 77 10) := (W_n W332 (by decide) (F_n F324 (show ¬ (77 < 0) by decide) rfl))
        have b_337 := g_b hG309 (a := 77) (i := 10) (lo := 0) (hi := 500) rfl rfl
        refine tt_gI (pc := 7) rw_152_7 (g_o hG334 rfl) (v := (M313.2.1 77 10)) c_336 (s_pI (pc := 10) rw_152_10 hG334 rfl (fun M339 W338 => ?_))
        have hG340 := g_wf hG334 W338 rfl rfl (by decide)
        have F341 := FR.w F335 W338 (show 77 = 77 ∧ (5 = 4 ∨ 5 = 5 ∨ 7 ≤ 5 ∧ 5 ≤ 10 ∨ 5 = 16) ∨ 85 ≤ 77 ∧ 77 ≤ 87 ∧ 12 ≤ 5 by decide)
        refine to_c (pc := 13) rw_152_13 (x := (0 : Int32)) rfl rfl (s_r1 (pc := 14) rw_152_14 (A := 0) rfl (by decide) (s_r1 (pc := 64) rw_171_64 (A := 0) rfl (by decide) ?_))
        have k_342 : (0 : Int32).toInt = 0 := rfl
        have c_343 : M339.2.1 77 7 = (M313.2.1 77 7) := (W_n W338 (by decide) (W_n W332 (by decide) (F_n F324 (show ¬ (77 < 0) by decide) rfl)))
        have t_344 : (M339.2.1 77 7).toInt = (M313.2.1 77 7).toInt := congrArg Int32.toInt c_343
        have c_345 : M339.2.1 77 6 = (M.2.1 77 6) := (W_n W338 (by decide) (W_n W332 (by decide) (F_n F324 (show ¬ (77 < 0) by decide) c_316)))
        have t_346 : (M339.2.1 77 6).toInt = (M.2.1 77 6).toInt := congrArg Int32.toInt c_345
        have c_347 : M339.2.1 77 8 = (M313.2.1 77 8) := (W_n W338 (by decide) (W_n W332 (by decide) (F_n F324 (show ¬ (77 < 0) by decide) rfl)))
        have t_348 : (M339.2.1 77 8).toInt = (M313.2.1 77 8).toInt := congrArg Int32.toInt c_347
        have j_349 := (WR_f (fun a i z => W_n W338 (by /-r77,5-/ omega) rfl) (WR_f (fun a i z => W_n W332 (by /-r77,4-/ omega) rfl) (WR_f (tg_308 F324) (WR_f (tg_311 F308) q2))))
        have c_350 : M339.2.1 77 4 = (4 : Int32) := (W_n W338 (by decide) (W_e W332))
        have k_351 : (4 : Int32).toInt = 4 := rfl
        have t_352 : (M339.2.1 77 4).toInt = (4 : Int32).toInt := congrArg Int32.toInt c_350
        have c_353 : M339.2.1 77 5 = (M313.2.1 77 10) := (W_e W338)
        have t_354 : (M339.2.1 77 5).toInt = (M313.2.1 77 10).toInt := congrArg Int32.toInt c_353
        exact h (0 : Int32) M339 hG340 F341 (by decide) (by decide) (by omega) (by omega) (by omega) j_349 (by omega)
      · refine to_an (pc := 46) rw_171_46 rfl (s_gR (pc := 47) rw_171_47 hG325 rfl (v := 81) rfl (to_c (pc := 50) rw_171_50 (x := (8 : Int32)) rfl rfl (to_in (pc := 52) rw_171_52 rfl (s_add (pc := 53) rw_171_53 (A := 8) (B := r323.toInt) rfl rfl (by omega) (fun v355 e356 => s_ial (pc := 54) rw_171_54 hG325 rfl (n := 16) rfl rfl (A := v355.toInt) rfl (by omega) (by omega) (lo := 0) (hi := 3) rfl rfl (fun v357 w_358 _ _ => to_c (pc := 55) rw_171_55 (x := (3 : Int32)) rfl rfl (b_ceq (pc := 56) rw_171_56 (A := v357.toInt) (B := 3) rfl rfl (fun h359 => ?_) (fun h359 => ?_))))))))
        · refine to_an (pc := 65) rw_171_65 rfl (s_v (pc := 66) rw_171_66 (dp0 hd (by decide)) (ls0 := [.ref 77]) rfl (Nat.le_of_ble_eq_true rfl) (Nat.le_of_ble_eq_true rfl) rfl (to_rc rfl rfl rfl (g_o hG325 rfl)) rfl ?_)
          have c_360 : M329.2.1 77 7 = (M313.2.1 77 7) := (F_n F324 (show ¬ (77 < 0) by decide) rfl)
          have t_361 : (M329.2.1 77 7).toInt = (M313.2.1 77 7).toInt := congrArg Int32.toInt c_360
          have c_362 : M329.2.1 77 6 = (M.2.1 77 6) := (F_n F324 (show ¬ (77 < 0) by decide) c_316)
          have t_363 : (M329.2.1 77 6).toInt = (M.2.1 77 6).toInt := congrArg Int32.toInt c_362
          refine C_156 hX (dp1 hd (by decide)) hG325 (by omega)  (fun M369 hG365 F364 p_366 p_367 p_368 => ?_)
          have F370 := FR.c F330 F364 tg_58
          have b_371 := g_b hG365 (a := 77) (i := 7) (lo := 0) (hi := 500) rfl rfl
          have c_372 : M369.2.1 77 6 = (M.2.1 77 6) := (F_n F364 (show ¬ (77 = 77 ∧ 7 ≤ 6 ∧ 6 ≤ 10) by decide) c_362)
          have t_373 : (M369.2.1 77 6).toInt = (M.2.1 77 6).toInt := congrArg Int32.toInt c_372
          have b_374 := g_b hG365 (a := 77) (i := 8) (lo := 0) (hi := 5) rfl rfl
          refine to_an (pc := 69) rw_171_69 rfl (s_v (pc := 70) rw_171_70 (dp0 hd (by decide)) (ls0 := [.ref 77]) rfl (Nat.le_of_ble_eq_true rfl) (Nat.le_of_ble_eq_true rfl) rfl (to_rc rfl rfl rfl (g_o hG365 rfl)) rfl ?_)
          have c_375 : M369.2.1 77 4 = (M.2.1 77 4) := (F_n F364 (show ¬ (77 = 77 ∧ 7 ≤ 4 ∧ 4 ≤ 10) by decide) (F_n F324 (show ¬ (77 < 0) by decide) (F_n F308 (show ¬ (77 = 77 ∧ 7 ≤ 4 ∧ 4 ≤ 10) by decide) rfl)))
          have t_376 : (M369.2.1 77 4).toInt = (M.2.1 77 4).toInt := congrArg Int32.toInt c_375
          have c_377 : M369.2.1 77 5 = (M.2.1 77 5) := (F_n F364 (show ¬ (77 = 77 ∧ 7 ≤ 5 ∧ 5 ≤ 10) by decide) (F_n F324 (show ¬ (77 < 0) by decide) (F_n F308 (show ¬ (77 = 77 ∧ 7 ≤ 5 ∧ 5 ≤ 10) by decide) rfl)))
          have t_378 : (M369.2.1 77 5).toInt = (M.2.1 77 5).toInt := congrArg Int32.toInt c_377
          refine C_169 hX (dp1 hd (by decide)) hG365  (fun r379 M385 hG381 F380 p_382 p_383 p_384 => ?_)
          have F386 := FR.c F370 F380 tg_60
          refine b_ine (pc := 73) rw_171_73 (A := r379.toInt) rfl (fun h387 => ?_) (fun h387 => ?_)
          · refine to_an (pc := 78) rw_171_78 rfl ?_
            have c_388 : M385.2.1 77 9 = (M369.2.1 77 9) := (F_n F380 (show ¬ (77 = 77 ∧ (9 = 4 ∨ 9 = 5)) by decide) rfl)
            refine tt_gI (pc := 79) rw_171_79 (g_o hG381 rfl) (v := (M369.2.1 77 9)) c_388 (to_isn (pc := 82) rw_171_82 (ls2 := [.ref 77, .int r323, .int (M369.2.1 77 9), .null, .null, .null]) rfl rfl (to_an (pc := 83) rw_171_83 rfl (s_v (pc := 84) rw_171_84 (dp0 hd (by decide)) (ls0 := [.ref 77]) rfl (Nat.le_of_ble_eq_true rfl) (Nat.le_of_ble_eq_true rfl) rfl (to_rc rfl rfl rfl (g_o hG381 rfl)) rfl ?_)))
            have c_389 : M385.2.1 77 7 = (M369.2.1 77 7) := (F_n F380 (show ¬ (77 = 77 ∧ (7 = 4 ∨ 7 = 5)) by decide) rfl)
            have t_390 : (M385.2.1 77 7).toInt = (M369.2.1 77 7).toInt := congrArg Int32.toInt c_389
            have c_391 : M385.2.1 77 6 = (M.2.1 77 6) := (F_n F380 (show ¬ (77 = 77 ∧ (6 = 4 ∨ 6 = 5)) by decide) c_372)
            have t_392 : (M385.2.1 77 6).toInt = (M.2.1 77 6).toInt := congrArg Int32.toInt c_391
            refine C_156 hX (dp1 hd (by decide)) hG381 (by omega)  (fun M398 hG394 F393 p_395 p_396 p_397 => ?_)
            have F399 := FR.c F386 F393 tg_58
            have b_400 := g_b hG394 (a := 77) (i := 7) (lo := 0) (hi := 500) rfl rfl
            have c_401 : M398.2.1 77 6 = (M.2.1 77 6) := (F_n F393 (show ¬ (77 = 77 ∧ 7 ≤ 6 ∧ 6 ≤ 10) by decide) c_391)
            have t_402 : (M398.2.1 77 6).toInt = (M.2.1 77 6).toInt := congrArg Int32.toInt c_401
            have b_403 := g_b hG394 (a := 77) (i := 8) (lo := 0) (hi := 5) rfl rfl
            refine to_an (pc := 87) rw_171_87 rfl (tt_gI (pc := 88) rw_171_88 (g_o hG394 rfl) (v := (M398.2.1 77 8)) rfl (to_c (pc := 91) rw_171_91 (x := (3 : Int32)) rfl rfl (b_ceq (pc := 92) rw_171_92 (A := (M398.2.1 77 8).toInt) (B := 3) rfl rfl (fun h404 => ?_) (fun h404 => ?_))))
            · refine to_c (pc := 101) rw_171_101 (x := (0 : Int32)) rfl rfl (to_isn (pc := 102) rw_171_102 (ls2 := [.ref 77, .int r323, .int (M369.2.1 77 9), .int (0 : Int32), .null, .null]) rfl rfl (s_cl (pc := 103) rw_171_103 rfl (fun l405 => to_ls (pc := 104) rw_171_104 (ls2 := [.ref 77, .int r323, .int (M369.2.1 77 9), .int (0 : Int32), .long l405, .null]) rfl rfl ?_)))
              have k_406 : (0 : Int32).toInt = 0 := rfl
              have c_407 : M398.2.1 77 15 = (M.2.1 77 15) := (F_n F393 (show ¬ (77 = 77 ∧ 7 ≤ 15 ∧ 15 ≤ 10) by decide) (F_n F380 (show ¬ (77 = 77 ∧ (15 = 4 ∨ 15 = 5)) by decide) (F_n F364 (show ¬ (77 = 77 ∧ 7 ≤ 15 ∧ 15 ≤ 10) by decide) (F_n F324 (show ¬ (77 < 0) by decide) c_320))))
              have t_408 : (M398.2.1 77 15).toInt = (M.2.1 77 15).toInt := congrArg Int32.toInt c_407
              have c_409 : M398.2.1 77 16 = (M.2.1 77 16) := (F_n F393 (show ¬ (77 = 77 ∧ 7 ≤ 16 ∧ 16 ≤ 10) by decide) (F_n F380 (show ¬ (77 = 77 ∧ (16 = 4 ∨ 16 = 5)) by decide) (F_n F364 (show ¬ (77 = 77 ∧ 7 ≤ 16 ∧ 16 ≤ 10) by decide) (F_n F324 (show ¬ (77 < 0) by decide) (F_n F308 (show ¬ (77 = 77 ∧ 7 ≤ 16 ∧ 16 ≤ 10) by decide) rfl)))))
              have t_410 : (M398.2.1 77 16).toInt = (M.2.1 77 16).toInt := congrArg Int32.toInt c_409
              have j_411 : (M398.2.1 81 (8 + (r323.toInt).toNat)).toInt = 3 := by rw [show 8 + (r323.toInt).toNat = (v355.toInt).toNat by omega, (F_n F393 (show ¬ (81 = 77 ∧ 7 ≤ ((v355.toInt).toNat) ∧ ((v355.toInt).toNat) ≤ 10) by omega) (F_n F380 (show ¬ (81 = 77 ∧ (((v355.toInt).toNat) = 4 ∨ ((v355.toInt).toNat) = 5)) by omega) (F_n F364 (show ¬ (81 = 77 ∧ 7 ≤ ((v355.toInt).toNat) ∧ ((v355.toInt).toNat) ≤ 10) by omega) w_358)))]; omega
              have j_412 := (WR_f (tg_311 F393) (WR_f (tg_312 F380) (WR_f (tg_311 F364) (WR_f (tg_308 F324) (WR_f (tg_311 F308) q2)))))
              have c_413 : M398.2.1 77 4 = (M385.2.1 77 4) := (F_n F393 (show ¬ (77 = 77 ∧ 7 ≤ 4 ∧ 4 ≤ 10) by decide) rfl)
              have t_414 : (M398.2.1 77 4).toInt = (M385.2.1 77 4).toInt := congrArg Int32.toInt c_413
              have c_415 : M398.2.1 77 5 = (M385.2.1 77 5) := (F_n F393 (show ¬ (77 = 77 ∧ 7 ≤ 5 ∧ 5 ≤ 10) by decide) rfl)
              have t_416 : (M398.2.1 77 5).toInt = (M385.2.1 77 5).toInt := congrArg Int32.toInt c_415
              exact (T_171_0 hX hd q1 q2 h ((6 * (500 - (M398.2.1 77 7).toInt) + (M398.2.1 77 8).toInt).toNat + 1)) M398 r323 (M369.2.1 77 9) (0 : Int32) l405 hG394 F399 (by omega) (by omega) (by omega) (by omega) (by omega) (by omega) j_411 (by omega) j_412 (by omega) (by omega)
            · refine to_an (pc := 95) rw_171_95 rfl (to_c (pc := 96) rw_171_96 (x := (1 : Int32)) rfl rfl (s_v (pc := 97) rw_171_97 (dp0 hd (by decide)) (ls0 := [.ref 77, .int (1 : Int32)]) rfl (Nat.le_of_ble_eq_true rfl) (Nat.le_of_ble_eq_true rfl) rfl (to_rc rfl rfl rfl (g_o hG394 rfl)) rfl (to_an (pc := 0) rw_152_0 rfl (to_in (pc := 1) rw_152_1 rfl (s_pI (pc := 2) rw_152_2 hG394 rfl (fun M418 W417 => ?_))))))
              have hG419 := g_wf hG394 W417 rfl rfl (by decide)
              have F420 := FR.w F399 W417 (show 77 = 77 ∧ (4 = 4 ∨ 4 = 5 ∨ 7 ≤ 4 ∧ 4 ≤ 10 ∨ 4 = 16) ∨ 85 ≤ 77 ∧ 77 ≤ 87 ∧ 12 ≤ 4 by decide)
              refine to_an (pc := 5) rw_152_5 rfl (to_an (pc := 6) rw_152_6 rfl ?_)
              have c_421 : M418.2.1 77 10 = (M398.2.1 77 10) := (W_n W417 (by decide) rfl)
              have b_422 := g_b hG394 (a := 77) (i := 10) (lo := 0) (hi := 500) rfl rfl
              refine tt_gI (pc := 7) rw_152_7 (g_o hG419 rfl) (v := (M398.2.1 77 10)) c_421 (s_pI (pc := 10) rw_152_10 hG419 rfl (fun M424 W423 => ?_))
              have hG425 := g_wf hG419 W423 rfl rfl (by decide)
              have F426 := FR.w F420 W423 (show 77 = 77 ∧ (5 = 4 ∨ 5 = 5 ∨ 7 ≤ 5 ∧ 5 ≤ 10 ∨ 5 = 16) ∨ 85 ≤ 77 ∧ 77 ≤ 87 ∧ 12 ≤ 5 by decide)
              refine to_c (pc := 13) rw_152_13 (x := (0 : Int32)) rfl rfl (s_r1 (pc := 14) rw_152_14 (A := 0) rfl (by decide) (s_r1 (pc := 100) rw_171_100 (A := 0) rfl (by decide) ?_))
              have k_427 : (0 : Int32).toInt = 0 := rfl
              have c_428 : M424.2.1 77 7 = (M398.2.1 77 7) := (W_n W423 (by decide) (W_n W417 (by decide) rfl))
              have t_429 : (M424.2.1 77 7).toInt = (M398.2.1 77 7).toInt := congrArg Int32.toInt c_428
              have c_430 : M424.2.1 77 6 = (M.2.1 77 6) := (W_n W423 (by decide) (W_n W417 (by decide) c_401))
              have t_431 : (M424.2.1 77 6).toInt = (M.2.1 77 6).toInt := congrArg Int32.toInt c_430
              have c_432 : M424.2.1 77 8 = (M398.2.1 77 8) := (W_n W423 (by decide) (W_n W417 (by decide) rfl))
              have t_433 : (M424.2.1 77 8).toInt = (M398.2.1 77 8).toInt := congrArg Int32.toInt c_432
              have j_434 := (WR_f (fun a i z => W_n W423 (by /-r77,5-/ omega) rfl) (WR_f (fun a i z => W_n W417 (by /-r77,4-/ omega) rfl) (WR_f (tg_311 F393) (WR_f (tg_312 F380) (WR_f (tg_311 F364) (WR_f (tg_308 F324) (WR_f (tg_311 F308) q2)))))))
              have c_435 : M424.2.1 77 4 = (1 : Int32) := (W_n W423 (by decide) (W_e W417))
              have k_436 : (1 : Int32).toInt = 1 := rfl
              have t_437 : (M424.2.1 77 4).toInt = (1 : Int32).toInt := congrArg Int32.toInt c_435
              have c_438 : M424.2.1 77 5 = (M398.2.1 77 10) := (W_e W423)
              have t_439 : (M424.2.1 77 5).toInt = (M398.2.1 77 10).toInt := congrArg Int32.toInt c_438
              exact h (0 : Int32) M424 hG425 F426 (by decide) (by decide) (by omega) (by omega) (by omega) j_434 (by omega)
          · refine to_c (pc := 76) rw_171_76 (x := (0 : Int32)) rfl rfl (s_r1 (pc := 77) rw_171_77 (A := 0) rfl (by decide) ?_)
            have k_440 : (0 : Int32).toInt = 0 := rfl
            have c_441 : M385.2.1 77 7 = (M369.2.1 77 7) := (F_n F380 (show ¬ (77 = 77 ∧ (7 = 4 ∨ 7 = 5)) by decide) rfl)
            have t_442 : (M385.2.1 77 7).toInt = (M369.2.1 77 7).toInt := congrArg Int32.toInt c_441
            have c_443 : M385.2.1 77 6 = (M.2.1 77 6) := (F_n F380 (show ¬ (77 = 77 ∧ (6 = 4 ∨ 6 = 5)) by decide) c_372)
            have t_444 : (M385.2.1 77 6).toInt = (M.2.1 77 6).toInt := congrArg Int32.toInt c_443
            have c_445 : M385.2.1 77 8 = (M369.2.1 77 8) := (F_n F380 (show ¬ (77 = 77 ∧ (8 = 4 ∨ 8 = 5)) by decide) rfl)
            have t_446 : (M385.2.1 77 8).toInt = (M369.2.1 77 8).toInt := congrArg Int32.toInt c_445
            have j_447 := (WR_f (tg_312 F380) (WR_f (tg_311 F364) (WR_f (tg_308 F324) (WR_f (tg_311 F308) q2))))
            exact h (0 : Int32) M385 hG381 F386 (by decide) (by decide) (by omega) (by omega) (by omega) j_447 (by omega)
        · refine to_an (pc := 59) rw_171_59 rfl (to_c (pc := 60) rw_171_60 (x := (4 : Int32)) rfl rfl (s_v (pc := 61) rw_171_61 (dp0 hd (by decide)) (ls0 := [.ref 77, .int (4 : Int32)]) rfl (Nat.le_of_ble_eq_true rfl) (Nat.le_of_ble_eq_true rfl) rfl (to_rc rfl rfl rfl (g_o hG325 rfl)) rfl (to_an (pc := 0) rw_152_0 rfl (to_in (pc := 1) rw_152_1 rfl (s_pI (pc := 2) rw_152_2 hG325 rfl (fun M449 W448 => ?_))))))
          have hG450 := g_wf hG325 W448 rfl rfl (by decide)
          have F451 := FR.w F330 W448 (show 77 = 77 ∧ (4 = 4 ∨ 4 = 5 ∨ 7 ≤ 4 ∧ 4 ≤ 10 ∨ 4 = 16) ∨ 85 ≤ 77 ∧ 77 ≤ 87 ∧ 12 ≤ 4 by decide)
          refine to_an (pc := 5) rw_152_5 rfl (to_an (pc := 6) rw_152_6 rfl ?_)
          have c_452 : M449.2.1 77 10 = (M313.2.1 77 10) := (W_n W448 (by decide) (F_n F324 (show ¬ (77 < 0) by decide) rfl))
          have b_453 := g_b hG309 (a := 77) (i := 10) (lo := 0) (hi := 500) rfl rfl
          refine tt_gI (pc := 7) rw_152_7 (g_o hG450 rfl) (v := (M313.2.1 77 10)) c_452 (s_pI (pc := 10) rw_152_10 hG450 rfl (fun M455 W454 => ?_))
          have hG456 := g_wf hG450 W454 rfl rfl (by decide)
          have F457 := FR.w F451 W454 (show 77 = 77 ∧ (5 = 4 ∨ 5 = 5 ∨ 7 ≤ 5 ∧ 5 ≤ 10 ∨ 5 = 16) ∨ 85 ≤ 77 ∧ 77 ≤ 87 ∧ 12 ≤ 5 by decide)
          refine to_c (pc := 13) rw_152_13 (x := (0 : Int32)) rfl rfl (s_r1 (pc := 14) rw_152_14 (A := 0) rfl (by decide) (s_r1 (pc := 64) rw_171_64 (A := 0) rfl (by decide) ?_))
          have k_458 : (0 : Int32).toInt = 0 := rfl
          have c_459 : M455.2.1 77 7 = (M313.2.1 77 7) := (W_n W454 (by decide) (W_n W448 (by decide) (F_n F324 (show ¬ (77 < 0) by decide) rfl)))
          have t_460 : (M455.2.1 77 7).toInt = (M313.2.1 77 7).toInt := congrArg Int32.toInt c_459
          have c_461 : M455.2.1 77 6 = (M.2.1 77 6) := (W_n W454 (by decide) (W_n W448 (by decide) (F_n F324 (show ¬ (77 < 0) by decide) c_316)))
          have t_462 : (M455.2.1 77 6).toInt = (M.2.1 77 6).toInt := congrArg Int32.toInt c_461
          have c_463 : M455.2.1 77 8 = (M313.2.1 77 8) := (W_n W454 (by decide) (W_n W448 (by decide) (F_n F324 (show ¬ (77 < 0) by decide) rfl)))
          have t_464 : (M455.2.1 77 8).toInt = (M313.2.1 77 8).toInt := congrArg Int32.toInt c_463
          have j_465 := (WR_f (fun a i z => W_n W454 (by /-r77,5-/ omega) rfl) (WR_f (fun a i z => W_n W448 (by /-r77,4-/ omega) rfl) (WR_f (tg_308 F324) (WR_f (tg_311 F308) q2))))
          have c_466 : M455.2.1 77 4 = (4 : Int32) := (W_n W454 (by decide) (W_e W448))
          have k_467 : (4 : Int32).toInt = 4 := rfl
          have t_468 : (M455.2.1 77 4).toInt = (4 : Int32).toInt := congrArg Int32.toInt c_466
          have c_469 : M455.2.1 77 5 = (M313.2.1 77 10) := (W_e W454)
          have t_470 : (M455.2.1 77 5).toInt = (M313.2.1 77 10).toInt := congrArg Int32.toInt c_469
          exact h (0 : Int32) M455 hG456 F457 (by decide) (by decide) (by omega) (by omega) (by omega) j_465 (by omega)
    · refine to_an (pc := 27) rw_171_27 rfl (to_c (pc := 28) rw_171_28 (x := (1 : Int32)) rfl rfl (s_v (pc := 29) rw_171_29 (dp0 hd (by decide)) (ls0 := [.ref 77, .int (1 : Int32)]) rfl (Nat.le_of_ble_eq_true rfl) (Nat.le_of_ble_eq_true rfl) rfl (to_rc rfl rfl rfl (g_o hG309 rfl)) rfl (to_an (pc := 0) rw_152_0 rfl (to_in (pc := 1) rw_152_1 rfl (s_pI (pc := 2) rw_152_2 hG309 rfl (fun M472 W471 => ?_))))))
      have hG473 := g_wf hG309 W471 rfl rfl (by decide)
      have F474 := FR.w F314 W471 (show 77 = 77 ∧ (4 = 4 ∨ 4 = 5 ∨ 7 ≤ 4 ∧ 4 ≤ 10 ∨ 4 = 16) ∨ 85 ≤ 77 ∧ 77 ≤ 87 ∧ 12 ≤ 4 by decide)
      refine to_an (pc := 5) rw_152_5 rfl (to_an (pc := 6) rw_152_6 rfl ?_)
      have c_475 : M472.2.1 77 10 = (M313.2.1 77 10) := (W_n W471 (by decide) rfl)
      have b_476 := g_b hG309 (a := 77) (i := 10) (lo := 0) (hi := 500) rfl rfl
      refine tt_gI (pc := 7) rw_152_7 (g_o hG473 rfl) (v := (M313.2.1 77 10)) c_475 (s_pI (pc := 10) rw_152_10 hG473 rfl (fun M478 W477 => ?_))
      have hG479 := g_wf hG473 W477 rfl rfl (by decide)
      have F480 := FR.w F474 W477 (show 77 = 77 ∧ (5 = 4 ∨ 5 = 5 ∨ 7 ≤ 5 ∧ 5 ≤ 10 ∨ 5 = 16) ∨ 85 ≤ 77 ∧ 77 ≤ 87 ∧ 12 ≤ 5 by decide)
      refine to_c (pc := 13) rw_152_13 (x := (0 : Int32)) rfl rfl (s_r1 (pc := 14) rw_152_14 (A := 0) rfl (by decide) (s_r1 (pc := 32) rw_171_32 (A := 0) rfl (by decide) ?_))
      have k_481 : (0 : Int32).toInt = 0 := rfl
      have c_482 : M478.2.1 77 7 = (M313.2.1 77 7) := (W_n W477 (by decide) (W_n W471 (by decide) rfl))
      have t_483 : (M478.2.1 77 7).toInt = (M313.2.1 77 7).toInt := congrArg Int32.toInt c_482
      have c_484 : M478.2.1 77 6 = (M.2.1 77 6) := (W_n W477 (by decide) (W_n W471 (by decide) c_316))
      have t_485 : (M478.2.1 77 6).toInt = (M.2.1 77 6).toInt := congrArg Int32.toInt c_484
      have c_486 : M478.2.1 77 8 = (M313.2.1 77 8) := (W_n W477 (by decide) (W_n W471 (by decide) rfl))
      have t_487 : (M478.2.1 77 8).toInt = (M313.2.1 77 8).toInt := congrArg Int32.toInt c_486
      have j_488 := (WR_f (fun a i z => W_n W477 (by /-r77,5-/ omega) rfl) (WR_f (fun a i z => W_n W471 (by /-r77,4-/ omega) rfl) (WR_f (tg_311 F308) q2)))
      have c_489 : M478.2.1 77 4 = (1 : Int32) := (W_n W477 (by decide) (W_e W471))
      have k_490 : (1 : Int32).toInt = 1 := rfl
      have t_491 : (M478.2.1 77 4).toInt = (1 : Int32).toInt := congrArg Int32.toInt c_489
      have c_492 : M478.2.1 77 5 = (M313.2.1 77 10) := (W_e W477)
      have t_493 : (M478.2.1 77 5).toInt = (M313.2.1 77 10).toInt := congrArg Int32.toInt c_492
      exact h (0 : Int32) M478 hG479 F480 (by decide) (by decide) (by omega) (by omega) (by omega) j_488 (by omega)
  · refine to_an (pc := 9) rw_171_9 rfl (to_c (pc := 10) rw_171_10 (x := (2 : Int32)) rfl rfl (s_v (pc := 11) rw_171_11 (dp0 hd (by decide)) (ls0 := [.ref 77, .int (2 : Int32)]) rfl (Nat.le_of_ble_eq_true rfl) (Nat.le_of_ble_eq_true rfl) rfl (to_rc rfl rfl rfl (g_o hG rfl)) rfl (to_an (pc := 0) rw_152_0 rfl (to_in (pc := 1) rw_152_1 rfl (s_pI (pc := 2) rw_152_2 hG rfl (fun M495 W494 => ?_))))))
    have hG496 := g_wf hG W494 rfl rfl (by decide)
    have F497 := FR.w F0 W494 (show 77 = 77 ∧ (4 = 4 ∨ 4 = 5 ∨ 7 ≤ 4 ∧ 4 ≤ 10 ∨ 4 = 16) ∨ 85 ≤ 77 ∧ 77 ≤ 87 ∧ 12 ≤ 4 by decide)
    refine to_an (pc := 5) rw_152_5 rfl (to_an (pc := 6) rw_152_6 rfl ?_)
    have c_498 : M495.2.1 77 10 = (M.2.1 77 10) := (W_n W494 (by decide) rfl)
    have b_499 := g_b hG (a := 77) (i := 10) (lo := 0) (hi := 500) rfl rfl
    refine tt_gI (pc := 7) rw_152_7 (g_o hG496 rfl) (v := (M.2.1 77 10)) c_498 (s_pI (pc := 10) rw_152_10 hG496 rfl (fun M501 W500 => ?_))
    have hG502 := g_wf hG496 W500 rfl rfl (by decide)
    have F503 := FR.w F497 W500 (show 77 = 77 ∧ (5 = 4 ∨ 5 = 5 ∨ 7 ≤ 5 ∧ 5 ≤ 10 ∨ 5 = 16) ∨ 85 ≤ 77 ∧ 77 ≤ 87 ∧ 12 ≤ 5 by decide)
    refine to_c (pc := 13) rw_152_13 (x := (0 : Int32)) rfl rfl (s_r1 (pc := 14) rw_152_14 (A := 0) rfl (by decide) (s_r1 (pc := 14) rw_171_14 (A := 0) rfl (by decide) ?_))
    have k_504 : (0 : Int32).toInt = 0 := rfl
    have c_505 : M501.2.1 77 7 = (M.2.1 77 7) := (W_n W500 (by decide) (W_n W494 (by decide) rfl))
    have t_506 : (M501.2.1 77 7).toInt = (M.2.1 77 7).toInt := congrArg Int32.toInt c_505
    have c_507 : M501.2.1 77 6 = (M.2.1 77 6) := (W_n W500 (by decide) (W_n W494 (by decide) rfl))
    have t_508 : (M501.2.1 77 6).toInt = (M.2.1 77 6).toInt := congrArg Int32.toInt c_507
    have c_509 : M501.2.1 77 8 = (M.2.1 77 8) := (W_n W500 (by decide) (W_n W494 (by decide) rfl))
    have b_510 := g_b hG (a := 77) (i := 8) (lo := 0) (hi := 5) rfl rfl
    have t_511 : (M501.2.1 77 8).toInt = (M.2.1 77 8).toInt := congrArg Int32.toInt c_509
    have j_512 := (WR_f (fun a i z => W_n W500 (by /-r77,5-/ omega) rfl) (WR_f (fun a i z => W_n W494 (by /-r77,4-/ omega) rfl) q2))
    have c_513 : M501.2.1 77 4 = (2 : Int32) := (W_n W500 (by decide) (W_e W494))
    have k_514 : (2 : Int32).toInt = 2 := rfl
    have t_515 : (M501.2.1 77 4).toInt = (2 : Int32).toInt := congrArg Int32.toInt c_513
    have c_516 : M501.2.1 77 5 = (M.2.1 77 10) := (W_e W500)
    have t_517 : (M501.2.1 77 5).toInt = (M.2.1 77 10).toInt := congrArg Int32.toInt c_516
    exact h (0 : Int32) M501 hG502 F503 (by decide) (by decide) (by omega) (by omega) (by omega) j_512 (by omega)
set_option maxRecDepth 4000 in
set_option maxHeartbeats 0 in
theorem C_172 {X : mm_X} {d : Nat} {M : mm_M} {Q : Option Value → mm_M → Prop} {x : Int32} (hX : g_X X) (hd : 4 ≤ d) (hG : g_G M) (q1 : (M.2.1 77 7).toInt ≤ (M.2.1 77 6).toInt) (q2 : 0 ≤ x.toInt) (q3 : x.toInt ≤ 1) (q4 : FA M) (q5 : WR M) (h : ∀ (r : Int32) (M1 : mm_M), g_G M1 → FR md_pl M M1 → (0 ≤ r.toInt) → (r.toInt ≤ 1) → ((M1.2.1 77 7).toInt ≤ (M1.2.1 77 6).toInt) → ((M.2.1 77 7).toInt ≤ (M1.2.1 77 7).toInt) → (r.toInt = 1 → (M1.2.1 77 8).toInt = 0 ∨ (M.2.1 77 7).toInt < (M1.2.1 77 7).toInt) → (r.toInt = 1 → ¬ (M.2.1 77 8).toInt = 0) → FA M1 → WR M1 → (r.toInt = 1 → (M1.2.1 77 4).toInt = (M.2.1 77 4).toInt ∧ (M1.2.1 77 5).toInt = (M.2.1 77 5).toInt) → Q (some (.int r)) M1) : mm_T X d 171 0 [.ref 77, .int x] [] M Q := by
  have F0 : FR md_pl M M := FR.rf
  have b_1 := g_b hG (a := 77) (i := 7) (lo := 0) (hi := 500) rfl rfl
  have b_2 := g_b hG (a := 77) (i := 6) (lo := 0) (hi := 500) rfl rfl
  refine to_an (pc := 0) rw_172_0 rfl ?_
  have b_3 := g_b hG (a := 77) (i := 8) (lo := 0) (hi := 5) rfl rfl
  refine tt_gI (pc := 1) rw_172_1 (g_o hG rfl) (v := (M.2.1 77 8)) rfl (to_c (pc := 4) rw_172_4 (x := (1 : Int32)) rfl rfl (b_cne (pc := 5) rw_172_5 (A := (M.2.1 77 8).toInt) (B := 1) rfl rfl (fun h4 => ?_) (fun h4 => ?_)))
  · refine to_an (pc := 27) rw_172_27 rfl (to_c (pc := 28) rw_172_28 (x := (1 : Int32)) rfl rfl (s_v (pc := 29) rw_172_29 (dp0 hd (by decide)) (ls0 := [.ref 77, .int (1 : Int32)]) rfl (Nat.le_of_ble_eq_true rfl) (Nat.le_of_ble_eq_true rfl) rfl (to_rc rfl rfl rfl (g_o hG rfl)) rfl (to_an (pc := 0) rw_152_0 rfl (to_in (pc := 1) rw_152_1 rfl (s_pI (pc := 2) rw_152_2 hG rfl (fun M6 W5 => ?_))))))
    have hG7 := g_wf hG W5 rfl rfl (by decide)
    have F8 := FR.w F0 W5 (show 77 = 77 ∧ (4 = 4 ∨ 4 = 5 ∨ 7 ≤ 4 ∧ 4 ≤ 10 ∨ 14 ≤ 4 ∧ 4 ≤ 16 ∨ 4 = 25) ∨ 80 ≤ 77 ∧ 77 ≤ 84 ∧ 8 ≤ 4 ∨ 85 ≤ 77 ∧ 77 ≤ 87 ∧ 12 ≤ 4 by decide)
    refine to_an (pc := 5) rw_152_5 rfl (to_an (pc := 6) rw_152_6 rfl ?_)
    have c_9 : M6.2.1 77 10 = (M.2.1 77 10) := (W_n W5 (by decide) rfl)
    have b_10 := g_b hG (a := 77) (i := 10) (lo := 0) (hi := 500) rfl rfl
    refine tt_gI (pc := 7) rw_152_7 (g_o hG7 rfl) (v := (M.2.1 77 10)) c_9 (s_pI (pc := 10) rw_152_10 hG7 rfl (fun M12 W11 => ?_))
    have hG13 := g_wf hG7 W11 rfl rfl (by decide)
    have F14 := FR.w F8 W11 (show 77 = 77 ∧ (5 = 4 ∨ 5 = 5 ∨ 7 ≤ 5 ∧ 5 ≤ 10 ∨ 14 ≤ 5 ∧ 5 ≤ 16 ∨ 5 = 25) ∨ 80 ≤ 77 ∧ 77 ≤ 84 ∧ 8 ≤ 5 ∨ 85 ≤ 77 ∧ 77 ≤ 87 ∧ 12 ≤ 5 by decide)
    refine to_c (pc := 13) rw_152_13 (x := (0 : Int32)) rfl rfl (s_r1 (pc := 14) rw_152_14 (A := 0) rfl (by decide) (s_r1 (pc := 32) rw_172_32 (A := 0) rfl (by decide) ?_))
    have k_15 : (0 : Int32).toInt = 0 := rfl
    have c_16 : M12.2.1 77 7 = (M.2.1 77 7) := (W_n W11 (by decide) (W_n W5 (by decide) rfl))
    have t_17 : (M12.2.1 77 7).toInt = (M.2.1 77 7).toInt := congrArg Int32.toInt c_16
    have c_18 : M12.2.1 77 6 = (M.2.1 77 6) := (W_n W11 (by decide) (W_n W5 (by decide) rfl))
    have t_19 : (M12.2.1 77 6).toInt = (M.2.1 77 6).toInt := congrArg Int32.toInt c_18
    have c_20 : M12.2.1 77 8 = (M.2.1 77 8) := (W_n W11 (by decide) (W_n W5 (by decide) rfl))
    have t_21 : (M12.2.1 77 8).toInt = (M.2.1 77 8).toInt := congrArg Int32.toInt c_20
    have j_22 := (FA_f (fun a i z => W_n W11 (tg_320 a i z) rfl) (FA_f (fun a i z => W_n W5 (tg_321 a i z) rfl) q4))
    have j_23 := (WR_f (fun a i z => W_n W11 (by /-r77,5-/ omega) rfl) (WR_f (fun a i z => W_n W5 (by /-r77,4-/ omega) rfl) q5))
    have c_24 : M12.2.1 77 4 = (1 : Int32) := (W_n W11 (by decide) (W_e W5))
    have k_25 : (1 : Int32).toInt = 1 := rfl
    have t_26 : (M12.2.1 77 4).toInt = (1 : Int32).toInt := congrArg Int32.toInt c_24
    have c_27 : M12.2.1 77 5 = (M.2.1 77 10) := (W_e W11)
    have t_28 : (M12.2.1 77 5).toInt = (M.2.1 77 10).toInt := congrArg Int32.toInt c_27
    exact h (0 : Int32) M12 hG13 F14 (by decide) (by decide) (by omega) (by omega) (by omega) (by omega) j_22 j_23 (by omega)
  · refine to_an (pc := 8) rw_172_8 rfl (tt_gI (pc := 9) rw_172_9 (g_o hG rfl) (v := (M.2.1 77 9)) rfl (to_c (pc := 12) rw_172_12 (x := (2 : Int32)) rfl rfl (b_cgt (pc := 13) rw_172_13 (A := (M.2.1 77 9).toInt) (B := 2) rfl rfl (fun h29 => ?_) (fun h29 => ?_))))
    · refine to_an (pc := 27) rw_172_27 rfl (to_c (pc := 28) rw_172_28 (x := (1 : Int32)) rfl rfl (s_v (pc := 29) rw_172_29 (dp0 hd (by decide)) (ls0 := [.ref 77, .int (1 : Int32)]) rfl (Nat.le_of_ble_eq_true rfl) (Nat.le_of_ble_eq_true rfl) rfl (to_rc rfl rfl rfl (g_o hG rfl)) rfl (to_an (pc := 0) rw_152_0 rfl (to_in (pc := 1) rw_152_1 rfl (s_pI (pc := 2) rw_152_2 hG rfl (fun M31 W30 => ?_))))))
      have hG32 := g_wf hG W30 rfl rfl (by decide)
      have F33 := FR.w F0 W30 (show 77 = 77 ∧ (4 = 4 ∨ 4 = 5 ∨ 7 ≤ 4 ∧ 4 ≤ 10 ∨ 14 ≤ 4 ∧ 4 ≤ 16 ∨ 4 = 25) ∨ 80 ≤ 77 ∧ 77 ≤ 84 ∧ 8 ≤ 4 ∨ 85 ≤ 77 ∧ 77 ≤ 87 ∧ 12 ≤ 4 by decide)
      refine to_an (pc := 5) rw_152_5 rfl (to_an (pc := 6) rw_152_6 rfl ?_)
      have c_34 : M31.2.1 77 10 = (M.2.1 77 10) := (W_n W30 (by decide) rfl)
      have b_35 := g_b hG (a := 77) (i := 10) (lo := 0) (hi := 500) rfl rfl
      refine tt_gI (pc := 7) rw_152_7 (g_o hG32 rfl) (v := (M.2.1 77 10)) c_34 (s_pI (pc := 10) rw_152_10 hG32 rfl (fun M37 W36 => ?_))
      have hG38 := g_wf hG32 W36 rfl rfl (by decide)
      have F39 := FR.w F33 W36 (show 77 = 77 ∧ (5 = 4 ∨ 5 = 5 ∨ 7 ≤ 5 ∧ 5 ≤ 10 ∨ 14 ≤ 5 ∧ 5 ≤ 16 ∨ 5 = 25) ∨ 80 ≤ 77 ∧ 77 ≤ 84 ∧ 8 ≤ 5 ∨ 85 ≤ 77 ∧ 77 ≤ 87 ∧ 12 ≤ 5 by decide)
      refine to_c (pc := 13) rw_152_13 (x := (0 : Int32)) rfl rfl (s_r1 (pc := 14) rw_152_14 (A := 0) rfl (by decide) (s_r1 (pc := 32) rw_172_32 (A := 0) rfl (by decide) ?_))
      have k_40 : (0 : Int32).toInt = 0 := rfl
      have c_41 : M37.2.1 77 7 = (M.2.1 77 7) := (W_n W36 (by decide) (W_n W30 (by decide) rfl))
      have t_42 : (M37.2.1 77 7).toInt = (M.2.1 77 7).toInt := congrArg Int32.toInt c_41
      have c_43 : M37.2.1 77 6 = (M.2.1 77 6) := (W_n W36 (by decide) (W_n W30 (by decide) rfl))
      have t_44 : (M37.2.1 77 6).toInt = (M.2.1 77 6).toInt := congrArg Int32.toInt c_43
      have c_45 : M37.2.1 77 8 = (M.2.1 77 8) := (W_n W36 (by decide) (W_n W30 (by decide) rfl))
      have t_46 : (M37.2.1 77 8).toInt = (M.2.1 77 8).toInt := congrArg Int32.toInt c_45
      have j_47 := (FA_f (fun a i z => W_n W36 (tg_320 a i z) rfl) (FA_f (fun a i z => W_n W30 (tg_321 a i z) rfl) q4))
      have j_48 := (WR_f (fun a i z => W_n W36 (by /-r77,5-/ omega) rfl) (WR_f (fun a i z => W_n W30 (by /-r77,4-/ omega) rfl) q5))
      have c_49 : M37.2.1 77 4 = (1 : Int32) := (W_n W36 (by decide) (W_e W30))
      have k_50 : (1 : Int32).toInt = 1 := rfl
      have t_51 : (M37.2.1 77 4).toInt = (1 : Int32).toInt := congrArg Int32.toInt c_49
      have c_52 : M37.2.1 77 5 = (M.2.1 77 10) := (W_e W36)
      have t_53 : (M37.2.1 77 5).toInt = (M.2.1 77 10).toInt := congrArg Int32.toInt c_52
      exact h (0 : Int32) M37 hG38 F39 (by decide) (by decide) (by omega) (by omega) (by omega) (by omega) j_47 j_48 (by omega)
    · refine to_in (pc := 16) rw_172_16 rfl (b_ieq (pc := 17) rw_172_17 (A := x.toInt) rfl (fun h54 => ?_) (fun h54 => ?_))
      · refine to_an (pc := 33) rw_172_33 rfl (tt_gI (pc := 34) rw_172_34 (g_o hG rfl) (v := (M.2.1 77 9)) rfl (b_ine (pc := 37) rw_172_37 (A := (M.2.1 77 9).toInt) rfl (fun h55 => ?_) (fun h55 => ?_)))
        · refine to_an (pc := 82) rw_172_82 rfl (tt_gI (pc := 83) rw_172_83 (g_o hG rfl) (v := (M.2.1 77 9)) rfl (to_c (pc := 86) rw_172_86 (x := (1 : Int32)) rfl rfl (b_cne (pc := 87) rw_172_87 (A := (M.2.1 77 9).toInt) (B := 1) rfl rfl (fun h56 => ?_) (fun h56 => ?_))))
          · refine to_an (pc := 100) rw_172_100 rfl (s_v (pc := 101) rw_172_101 (dp0 hd (by decide)) (ls0 := [.ref 77, .null, .null, .null, .null, .null]) rfl (Nat.le_of_ble_eq_true rfl) (Nat.le_of_ble_eq_true rfl) rfl (to_rc rfl rfl rfl (g_o hG rfl)) rfl (C_171 hX (dp1 hd (by decide)) hG (by omega) q5  (fun r57 M67 hG59 F58 p_60 p_61 p_62 p_63 p_64 p_65 p_66 => ?_)))
            have F68 := FR.c F0 F58 tg_76
            have b_69 := g_b hG59 (a := 77) (i := 7) (lo := 0) (hi := 500) rfl rfl
            have c_70 : M67.2.1 77 6 = (M.2.1 77 6) := (F_n F58 (show ¬ (77 = 77 ∧ (6 = 4 ∨ 6 = 5 ∨ 7 ≤ 6 ∧ 6 ≤ 10 ∨ 6 = 16) ∨ 85 ≤ 77 ∧ 77 ≤ 87 ∧ 12 ≤ 6) by decide) rfl)
            have t_71 : (M67.2.1 77 6).toInt = (M.2.1 77 6).toInt := congrArg Int32.toInt c_70
            have b_72 := g_b hG59 (a := 77) (i := 8) (lo := 0) (hi := 5) rfl rfl
            refine b_ine (pc := 104) rw_172_104 (A := r57.toInt) rfl (fun h73 => ?_) (fun h73 => ?_)
            · refine to_an (pc := 109) rw_172_109 rfl (to_c (pc := 110) rw_172_110 (x := (59 : Int32)) rfl rfl (s_v (pc := 112) rw_172_112 (dp0 hd (by decide)) (ls0 := [.ref 77, .int (59 : Int32)]) rfl (Nat.le_of_ble_eq_true rfl) (Nat.le_of_ble_eq_true rfl) rfl (to_rc rfl rfl rfl (g_o hG59 rfl)) rfl ?_))
              have k_74 : (59 : Int32).toInt = 59 := rfl
              refine C_160 hX (dp1 hd (by decide)) hG59 (by omega) (c := (59 : Int32)) (fun r75 M85 hG77 F76 p_78 p_79 p_80 p_81 p_82 p_83 p_84 => ?_)
              have F86 := FR.c F68 F76 tg_77
              have b_87 := g_b hG77 (a := 77) (i := 7) (lo := 0) (hi := 500) rfl rfl
              have c_88 : M85.2.1 77 6 = (M.2.1 77 6) := (F_n F76 (show ¬ (77 = 77 ∧ (6 = 4 ∨ 6 = 5 ∨ 7 ≤ 6 ∧ 6 ≤ 10)) by decide) c_70)
              have t_89 : (M85.2.1 77 6).toInt = (M.2.1 77 6).toInt := congrArg Int32.toInt c_88
              have b_90 := g_b hG77 (a := 77) (i := 8) (lo := 0) (hi := 5) rfl rfl
              refine s_r1 (pc := 115) rw_172_115 (A := r75.toInt) rfl (by omega) ?_
              have j_91 := (FA_f (tg_313 F76) (FA_f (tg_314 F58) q4))
              have j_92 := (WR_f (tg_315 F76) p_65)
              exact h r75 M85 hG77 F86 (by omega) (by omega) (by omega) (by omega) (by omega) (by omega) j_91 j_92 (by omega)
            · refine to_c (pc := 107) rw_172_107 (x := (0 : Int32)) rfl rfl (s_r1 (pc := 108) rw_172_108 (A := 0) rfl (by decide) ?_)
              have k_93 : (0 : Int32).toInt = 0 := rfl
              have j_94 := (FA_f (tg_314 F58) q4)
              exact h (0 : Int32) M67 hG59 F68 (by decide) (by decide) (by omega) (by omega) (by omega) (by omega) j_94 p_65 (by omega)
          · refine to_an (pc := 90) rw_172_90 rfl (s_v (pc := 91) rw_172_91 (dp0 hd (by decide)) (ls0 := [.ref 77, .null, .null, .null, .null, .null, .null, .null, .null]) rfl (Nat.le_of_ble_eq_true rfl) (Nat.le_of_ble_eq_true rfl) rfl (to_rc rfl rfl rfl (g_o hG rfl)) rfl (C_170 hX (dp1 hd (by decide)) hG (by omega) q4 q5  (fun r95 M106 hG97 F96 p_98 p_99 p_100 p_101 p_102 p_103 p_104 p_105 => ?_)))
            have F107 := FR.c F0 F96 tg_317
            have b_108 := g_b hG97 (a := 77) (i := 7) (lo := 0) (hi := 500) rfl rfl
            have c_109 : M106.2.1 77 6 = (M.2.1 77 6) := (F_n F96 (show ¬ (77 = 77 ∧ (6 = 4 ∨ 6 = 5 ∨ 7 ≤ 6 ∧ 6 ≤ 10 ∨ 14 ≤ 6 ∧ 6 ≤ 16 ∨ 6 = 25) ∨ 80 ≤ 77 ∧ 77 ≤ 84 ∧ 8 ≤ 6 ∨ 85 ≤ 77 ∧ 77 ≤ 87 ∧ 12 ≤ 6) by decide) rfl)
            have t_110 : (M106.2.1 77 6).toInt = (M.2.1 77 6).toInt := congrArg Int32.toInt c_109
            have b_111 := g_b hG97 (a := 77) (i := 8) (lo := 0) (hi := 5) rfl rfl
            refine b_ine (pc := 94) rw_172_94 (A := r95.toInt) rfl (fun h112 => ?_) (fun h112 => ?_)
            · refine to_an (pc := 109) rw_172_109 rfl (to_c (pc := 110) rw_172_110 (x := (59 : Int32)) rfl rfl (s_v (pc := 112) rw_172_112 (dp0 hd (by decide)) (ls0 := [.ref 77, .int (59 : Int32)]) rfl (Nat.le_of_ble_eq_true rfl) (Nat.le_of_ble_eq_true rfl) rfl (to_rc rfl rfl rfl (g_o hG97 rfl)) rfl ?_))
              have k_113 : (59 : Int32).toInt = 59 := rfl
              refine C_160 hX (dp1 hd (by decide)) hG97 (by omega) (c := (59 : Int32)) (fun r114 M124 hG116 F115 p_117 p_118 p_119 p_120 p_121 p_122 p_123 => ?_)
              have F125 := FR.c F107 F115 tg_77
              have b_126 := g_b hG116 (a := 77) (i := 7) (lo := 0) (hi := 500) rfl rfl
              have c_127 : M124.2.1 77 6 = (M.2.1 77 6) := (F_n F115 (show ¬ (77 = 77 ∧ (6 = 4 ∨ 6 = 5 ∨ 7 ≤ 6 ∧ 6 ≤ 10)) by decide) c_109)
              have t_128 : (M124.2.1 77 6).toInt = (M.2.1 77 6).toInt := congrArg Int32.toInt c_127
              have b_129 := g_b hG116 (a := 77) (i := 8) (lo := 0) (hi := 5) rfl rfl
              refine s_r1 (pc := 115) rw_172_115 (A := r114.toInt) rfl (by omega) ?_
              have j_130 := (FA_f (tg_313 F115) p_103)
              have j_131 := (WR_f (tg_315 F115) p_104)
              exact h r114 M124 hG116 F125 (by omega) (by omega) (by omega) (by omega) (by omega) (by omega) j_130 j_131 (by omega)
            · refine to_go (pc := 97) rw_172_97 (to_c (pc := 107) rw_172_107 (x := (0 : Int32)) rfl rfl (s_r1 (pc := 108) rw_172_108 (A := 0) rfl (by decide) ?_))
              have k_132 : (0 : Int32).toInt = 0 := rfl
              exact h (0 : Int32) M106 hG97 F107 (by decide) (by decide) (by omega) (by omega) (by omega) (by omega) p_103 p_104 (by omega)
        · refine to_in (pc := 40) rw_172_40 rfl (b_ine_f (pc := 41) rw_172_41 (A := x.toInt) rfl (by omega) (to_an (pc := 44) rw_172_44 rfl (to_c (pc := 45) rw_172_45 (x := (3 : Int32)) rfl rfl (s_v (pc := 46) rw_172_46 (dp0 hd (by decide)) (ls0 := [.ref 77, .int (3 : Int32)]) rfl (Nat.le_of_ble_eq_true rfl) (Nat.le_of_ble_eq_true rfl) rfl (to_rc rfl rfl rfl (g_o hG rfl)) rfl (to_an (pc := 0) rw_152_0 rfl (to_in (pc := 1) rw_152_1 rfl (s_pI (pc := 2) rw_152_2 hG rfl (fun M134 W133 => ?_))))))))
          have hG135 := g_wf hG W133 rfl rfl (by decide)
          have F136 := FR.w F0 W133 (show 77 = 77 ∧ (4 = 4 ∨ 4 = 5 ∨ 7 ≤ 4 ∧ 4 ≤ 10 ∨ 14 ≤ 4 ∧ 4 ≤ 16 ∨ 4 = 25) ∨ 80 ≤ 77 ∧ 77 ≤ 84 ∧ 8 ≤ 4 ∨ 85 ≤ 77 ∧ 77 ≤ 87 ∧ 12 ≤ 4 by decide)
          refine to_an (pc := 5) rw_152_5 rfl (to_an (pc := 6) rw_152_6 rfl ?_)
          have c_137 : M134.2.1 77 10 = (M.2.1 77 10) := (W_n W133 (by decide) rfl)
          have b_138 := g_b hG (a := 77) (i := 10) (lo := 0) (hi := 500) rfl rfl
          refine tt_gI (pc := 7) rw_152_7 (g_o hG135 rfl) (v := (M.2.1 77 10)) c_137 (s_pI (pc := 10) rw_152_10 hG135 rfl (fun M140 W139 => ?_))
          have hG141 := g_wf hG135 W139 rfl rfl (by decide)
          have F142 := FR.w F136 W139 (show 77 = 77 ∧ (5 = 4 ∨ 5 = 5 ∨ 7 ≤ 5 ∧ 5 ≤ 10 ∨ 14 ≤ 5 ∧ 5 ≤ 16 ∨ 5 = 25) ∨ 80 ≤ 77 ∧ 77 ≤ 84 ∧ 8 ≤ 5 ∨ 85 ≤ 77 ∧ 77 ≤ 87 ∧ 12 ≤ 5 by decide)
          refine to_c (pc := 13) rw_152_13 (x := (0 : Int32)) rfl rfl (s_r1 (pc := 14) rw_152_14 (A := 0) rfl (by decide) (s_r1 (pc := 49) rw_172_49 (A := 0) rfl (by decide) ?_))
          have k_143 : (0 : Int32).toInt = 0 := rfl
          have c_144 : M140.2.1 77 7 = (M.2.1 77 7) := (W_n W139 (by decide) (W_n W133 (by decide) rfl))
          have t_145 : (M140.2.1 77 7).toInt = (M.2.1 77 7).toInt := congrArg Int32.toInt c_144
          have c_146 : M140.2.1 77 6 = (M.2.1 77 6) := (W_n W139 (by decide) (W_n W133 (by decide) rfl))
          have t_147 : (M140.2.1 77 6).toInt = (M.2.1 77 6).toInt := congrArg Int32.toInt c_146
          have c_148 : M140.2.1 77 8 = (M.2.1 77 8) := (W_n W139 (by decide) (W_n W133 (by decide) rfl))
          have t_149 : (M140.2.1 77 8).toInt = (M.2.1 77 8).toInt := congrArg Int32.toInt c_148
          have j_150 := (FA_f (fun a i z => W_n W139 (tg_320 a i z) rfl) (FA_f (fun a i z => W_n W133 (tg_321 a i z) rfl) q4))
          have j_151 := (WR_f (fun a i z => W_n W139 (by /-r77,5-/ omega) rfl) (WR_f (fun a i z => W_n W133 (by /-r77,4-/ omega) rfl) q5))
          have c_152 : M140.2.1 77 4 = (3 : Int32) := (W_n W139 (by decide) (W_e W133))
          have k_153 : (3 : Int32).toInt = 3 := rfl
          have t_154 : (M140.2.1 77 4).toInt = (3 : Int32).toInt := congrArg Int32.toInt c_152
          have c_155 : M140.2.1 77 5 = (M.2.1 77 10) := (W_e W139)
          have t_156 : (M140.2.1 77 5).toInt = (M.2.1 77 10).toInt := congrArg Int32.toInt c_155
          exact h (0 : Int32) M140 hG141 F142 (by decide) (by decide) (by omega) (by omega) (by omega) (by omega) j_150 j_151 (by omega)
      · refine to_an (pc := 20) rw_172_20 rfl (tt_gI (pc := 21) rw_172_21 (g_o hG rfl) (v := (M.2.1 77 9)) rfl (b_ieq (pc := 24) rw_172_24 (A := (M.2.1 77 9).toInt) rfl (fun h157 => ?_) (fun h157 => ?_)))
        · refine to_an (pc := 33) rw_172_33 rfl (tt_gI (pc := 34) rw_172_34 (g_o hG rfl) (v := (M.2.1 77 9)) rfl (b_ine_f (pc := 37) rw_172_37 (A := (M.2.1 77 9).toInt) rfl (by omega) (to_in (pc := 40) rw_172_40 rfl (b_ine_t (pc := 41) rw_172_41 (A := x.toInt) rfl (by omega) (to_an (pc := 50) rw_172_50 rfl (s_v (pc := 51) rw_172_51 (dp0 hd (by decide)) (ls0 := [.ref 77]) rfl (Nat.le_of_ble_eq_true rfl) (Nat.le_of_ble_eq_true rfl) rfl (to_rc rfl rfl rfl (g_o hG rfl)) rfl (C_156 hX (dp1 hd (by decide)) hG (by omega)  (fun M163 hG159 F158 p_160 p_161 p_162 => ?_))))))))
          have F164 := FR.c F0 F158 tg_79
          have b_165 := g_b hG159 (a := 77) (i := 7) (lo := 0) (hi := 500) rfl rfl
          have c_166 : M163.2.1 77 6 = (M.2.1 77 6) := (F_n F158 (show ¬ (77 = 77 ∧ 7 ≤ 6 ∧ 6 ≤ 10) by decide) rfl)
          have t_167 : (M163.2.1 77 6).toInt = (M.2.1 77 6).toInt := congrArg Int32.toInt c_166
          have b_168 := g_b hG159 (a := 77) (i := 8) (lo := 0) (hi := 5) rfl rfl
          refine to_an (pc := 54) rw_172_54 rfl (to_c (pc := 55) rw_172_55 (x := (10 : Int32)) rfl rfl (to_c (pc := 57) rw_172_57 (x := (60 : Int32)) rfl rfl (s_v (pc := 59) rw_172_59 (dp0 hd (by decide)) (ls0 := [.ref 77, .int (10 : Int32), .int (60 : Int32)]) rfl (Nat.le_of_ble_eq_true rfl) (Nat.le_of_ble_eq_true rfl) rfl (to_rc rfl rfl rfl (g_o hG159 rfl)) rfl (to_an (pc := 0) rw_162_0 rfl (tt_gI (pc := 1) rw_162_1 (g_o hG159 rfl) (v := (M163.2.1 77 8)) rfl (to_c (pc := 4) rw_162_4 (x := (3 : Int32)) rfl rfl (b_ceq (pc := 5) rw_162_5 (A := (M163.2.1 77 8).toInt) (B := 3) rfl rfl (fun h169 => ?_) (fun h169 => ?_))))))))
          · refine to_an (pc := 14) rw_162_14 rfl (tt_gI (pc := 15) rw_162_15 (g_o hG159 rfl) (v := (M163.2.1 77 9)) rfl (to_in (pc := 18) rw_162_18 rfl (b_clt (pc := 19) rw_162_19 (A := (M163.2.1 77 9).toInt) (B := 10) rfl rfl (fun h170 => ?_) (fun h170 => ?_))))
            · refine to_an (pc := 30) rw_162_30 rfl (to_c (pc := 31) rw_162_31 (x := (2 : Int32)) rfl rfl (s_v (pc := 32) rw_162_32 (dp1 hd (by decide)) (ls0 := [.ref 77, .int (2 : Int32)]) rfl (Nat.le_of_ble_eq_true rfl) (Nat.le_of_ble_eq_true rfl) rfl (to_rc rfl rfl rfl (g_o hG159 rfl)) rfl (to_an (pc := 0) rw_152_0 rfl (to_in (pc := 1) rw_152_1 rfl (s_pI (pc := 2) rw_152_2 hG159 rfl (fun M172 W171 => ?_))))))
              have hG173 := g_wf hG159 W171 rfl rfl (by decide)
              have F174 := FR.w F164 W171 (show 77 = 77 ∧ (4 = 4 ∨ 4 = 5 ∨ 7 ≤ 4 ∧ 4 ≤ 10 ∨ 14 ≤ 4 ∧ 4 ≤ 16 ∨ 4 = 25) ∨ 80 ≤ 77 ∧ 77 ≤ 84 ∧ 8 ≤ 4 ∨ 85 ≤ 77 ∧ 77 ≤ 87 ∧ 12 ≤ 4 by decide)
              refine to_an (pc := 5) rw_152_5 rfl (to_an (pc := 6) rw_152_6 rfl ?_)
              have c_175 : M172.2.1 77 10 = (M163.2.1 77 10) := (W_n W171 (by decide) rfl)
              have b_176 := g_b hG159 (a := 77) (i := 10) (lo := 0) (hi := 500) rfl rfl
              refine tt_gI (pc := 7) rw_152_7 (g_o hG173 rfl) (v := (M163.2.1 77 10)) c_175 (s_pI (pc := 10) rw_152_10 hG173 rfl (fun M178 W177 => ?_))
              have hG179 := g_wf hG173 W177 rfl rfl (by decide)
              have F180 := FR.w F174 W177 (show 77 = 77 ∧ (5 = 4 ∨ 5 = 5 ∨ 7 ≤ 5 ∧ 5 ≤ 10 ∨ 14 ≤ 5 ∧ 5 ≤ 16 ∨ 5 = 25) ∨ 80 ≤ 77 ∧ 77 ≤ 84 ∧ 8 ≤ 5 ∨ 85 ≤ 77 ∧ 77 ≤ 87 ∧ 12 ≤ 5 by decide)
              refine to_c (pc := 13) rw_152_13 (x := (0 : Int32)) rfl rfl (s_r1 (pc := 14) rw_152_14 (A := 0) rfl (by decide) (b_ieq_t (pc := 35) rw_162_35 (A := 0) rfl (by decide) (to_c (pc := 42) rw_162_42 (x := (0 : Int32)) rfl rfl (s_r1 (pc := 43) rw_162_43 (A := 0) rfl (by decide) (b_ine_f (pc := 62) rw_172_62 (A := 0) rfl (by decide) (to_c (pc := 65) rw_172_65 (x := (0 : Int32)) rfl rfl (s_r1 (pc := 66) rw_172_66 (A := 0) rfl (by decide) ?_)))))))
              have k_181 : (0 : Int32).toInt = 0 := rfl
              have c_182 : M178.2.1 77 7 = (M163.2.1 77 7) := (W_n W177 (by decide) (W_n W171 (by decide) rfl))
              have t_183 : (M178.2.1 77 7).toInt = (M163.2.1 77 7).toInt := congrArg Int32.toInt c_182
              have c_184 : M178.2.1 77 6 = (M.2.1 77 6) := (W_n W177 (by decide) (W_n W171 (by decide) c_166))
              have t_185 : (M178.2.1 77 6).toInt = (M.2.1 77 6).toInt := congrArg Int32.toInt c_184
              have c_186 : M178.2.1 77 8 = (M163.2.1 77 8) := (W_n W177 (by decide) (W_n W171 (by decide) rfl))
              have t_187 : (M178.2.1 77 8).toInt = (M163.2.1 77 8).toInt := congrArg Int32.toInt c_186
              have j_188 := (FA_f (fun a i z => W_n W177 (tg_320 a i z) rfl) (FA_f (fun a i z => W_n W171 (tg_321 a i z) rfl) (FA_f (tg_309 F158) q4)))
              have j_189 := (WR_f (fun a i z => W_n W177 (by /-r77,5-/ omega) rfl) (WR_f (fun a i z => W_n W171 (by /-r77,4-/ omega) rfl) (WR_f (tg_311 F158) q5)))
              have c_190 : M178.2.1 77 4 = (2 : Int32) := (W_n W177 (by decide) (W_e W171))
              have k_191 : (2 : Int32).toInt = 2 := rfl
              have t_192 : (M178.2.1 77 4).toInt = (2 : Int32).toInt := congrArg Int32.toInt c_190
              have c_193 : M178.2.1 77 5 = (M163.2.1 77 10) := (W_e W177)
              have t_194 : (M178.2.1 77 5).toInt = (M163.2.1 77 10).toInt := congrArg Int32.toInt c_193
              exact h (0 : Int32) M178 hG179 F180 (by decide) (by decide) (by omega) (by omega) (by omega) (by omega) j_188 j_189 (by omega)
            · refine to_an (pc := 22) rw_162_22 rfl (tt_gI (pc := 23) rw_162_23 (g_o hG159 rfl) (v := (M163.2.1 77 9)) rfl (to_in (pc := 26) rw_162_26 rfl (b_cle (pc := 27) rw_162_27 (A := (M163.2.1 77 9).toInt) (B := 60) rfl rfl (fun h195 => ?_) (fun h195 => ?_))))
              · refine to_c (pc := 38) rw_162_38 (x := (1 : Int32)) rfl rfl (to_go (pc := 39) rw_162_39 (s_r1 (pc := 43) rw_162_43 (A := 1) rfl (by decide) (b_ine_t (pc := 62) rw_172_62 (A := 1) rfl (by decide) (to_an (pc := 67) rw_172_67 rfl (to_an (pc := 68) rw_172_68 rfl (tt_gI (pc := 69) rw_172_69 (g_o hG159 rfl) (v := (M163.2.1 77 9)) rfl (s_pI (pc := 72) rw_172_72 hG159 rfl (fun M197 W196 => ?_))))))))
                have hG198 := g_w hG159 W196 (A := (M163.2.1 77 9).toInt) rfl (lo := 10) (hi := 60) rfl rfl (by omega) (by decide)
                have F199 := FR.w F164 W196 (show 77 = 77 ∧ (14 = 4 ∨ 14 = 5 ∨ 7 ≤ 14 ∧ 14 ≤ 10 ∨ 14 ≤ 14 ∧ 14 ≤ 16 ∨ 14 = 25) ∨ 80 ≤ 77 ∧ 77 ≤ 84 ∧ 8 ≤ 14 ∨ 85 ≤ 77 ∧ 77 ≤ 87 ∧ 12 ≤ 14 by decide)
                refine to_an (pc := 75) rw_172_75 rfl (s_v (pc := 76) rw_172_76 (dp0 hd (by decide)) (ls0 := [.ref 77]) rfl (Nat.le_of_ble_eq_true rfl) (Nat.le_of_ble_eq_true rfl) rfl (to_rc rfl rfl rfl (g_o hG198 rfl)) rfl ?_)
                have c_200 : M197.2.1 77 7 = (M163.2.1 77 7) := (W_n W196 (by decide) rfl)
                have t_201 : (M197.2.1 77 7).toInt = (M163.2.1 77 7).toInt := congrArg Int32.toInt c_200
                have c_202 : M197.2.1 77 6 = (M.2.1 77 6) := (W_n W196 (by decide) c_166)
                have t_203 : (M197.2.1 77 6).toInt = (M.2.1 77 6).toInt := congrArg Int32.toInt c_202
                refine C_156 hX (dp1 hd (by decide)) hG198 (by omega)  (fun M209 hG205 F204 p_206 p_207 p_208 => ?_)
                have F210 := FR.c F199 F204 tg_79
                have b_211 := g_b hG205 (a := 77) (i := 7) (lo := 0) (hi := 500) rfl rfl
                have c_212 : M209.2.1 77 6 = (M.2.1 77 6) := (F_n F204 (show ¬ (77 = 77 ∧ 7 ≤ 6 ∧ 6 ≤ 10) by decide) c_202)
                have t_213 : (M209.2.1 77 6).toInt = (M.2.1 77 6).toInt := congrArg Int32.toInt c_212
                have b_214 := g_b hG205 (a := 77) (i := 8) (lo := 0) (hi := 5) rfl rfl
                refine to_go (pc := 79) rw_172_79 (to_an (pc := 109) rw_172_109 rfl (to_c (pc := 110) rw_172_110 (x := (59 : Int32)) rfl rfl (s_v (pc := 112) rw_172_112 (dp0 hd (by decide)) (ls0 := [.ref 77, .int (59 : Int32)]) rfl (Nat.le_of_ble_eq_true rfl) (Nat.le_of_ble_eq_true rfl) rfl (to_rc rfl rfl rfl (g_o hG205 rfl)) rfl ?_)))
                have k_215 : (59 : Int32).toInt = 59 := rfl
                have c_216 : M209.2.1 77 4 = (M.2.1 77 4) := (F_n F204 (show ¬ (77 = 77 ∧ 7 ≤ 4 ∧ 4 ≤ 10) by decide) (W_n W196 (by decide) (F_n F158 (show ¬ (77 = 77 ∧ 7 ≤ 4 ∧ 4 ≤ 10) by decide) rfl)))
                have t_217 : (M209.2.1 77 4).toInt = (M.2.1 77 4).toInt := congrArg Int32.toInt c_216
                have c_218 : M209.2.1 77 5 = (M.2.1 77 5) := (F_n F204 (show ¬ (77 = 77 ∧ 7 ≤ 5 ∧ 5 ≤ 10) by decide) (W_n W196 (by decide) (F_n F158 (show ¬ (77 = 77 ∧ 7 ≤ 5 ∧ 5 ≤ 10) by decide) rfl)))
                have t_219 : (M209.2.1 77 5).toInt = (M.2.1 77 5).toInt := congrArg Int32.toInt c_218
                refine C_160 hX (dp1 hd (by decide)) hG205 (by omega) (c := (59 : Int32)) (fun r220 M230 hG222 F221 p_223 p_224 p_225 p_226 p_227 p_228 p_229 => ?_)
                have F231 := FR.c F210 F221 tg_77
                have b_232 := g_b hG222 (a := 77) (i := 7) (lo := 0) (hi := 500) rfl rfl
                have c_233 : M230.2.1 77 6 = (M.2.1 77 6) := (F_n F221 (show ¬ (77 = 77 ∧ (6 = 4 ∨ 6 = 5 ∨ 7 ≤ 6 ∧ 6 ≤ 10)) by decide) c_212)
                have t_234 : (M230.2.1 77 6).toInt = (M.2.1 77 6).toInt := congrArg Int32.toInt c_233
                have b_235 := g_b hG222 (a := 77) (i := 8) (lo := 0) (hi := 5) rfl rfl
                refine s_r1 (pc := 115) rw_172_115 (A := r220.toInt) rfl (by omega) ?_
                have j_236 := (FA_f (tg_313 F221) (FA_f (tg_309 F204) (FA_f (fun a i z => W_n W196 (tg_322 a i z) rfl) (FA_f (tg_309 F158) q4))))
                have j_237 := (WR_f (tg_315 F221) (WR_f (tg_311 F204) (WR_f (fun a i z => W_n W196 (by /-r77,14-/ omega) rfl) (WR_f (tg_311 F158) q5))))
                exact h r220 M230 hG222 F231 (by omega) (by omega) (by omega) (by omega) (by omega) (by omega) j_236 j_237 (by omega)
              · refine to_an (pc := 30) rw_162_30 rfl (to_c (pc := 31) rw_162_31 (x := (2 : Int32)) rfl rfl (s_v (pc := 32) rw_162_32 (dp1 hd (by decide)) (ls0 := [.ref 77, .int (2 : Int32)]) rfl (Nat.le_of_ble_eq_true rfl) (Nat.le_of_ble_eq_true rfl) rfl (to_rc rfl rfl rfl (g_o hG159 rfl)) rfl (to_an (pc := 0) rw_152_0 rfl (to_in (pc := 1) rw_152_1 rfl (s_pI (pc := 2) rw_152_2 hG159 rfl (fun M239 W238 => ?_))))))
                have hG240 := g_wf hG159 W238 rfl rfl (by decide)
                have F241 := FR.w F164 W238 (show 77 = 77 ∧ (4 = 4 ∨ 4 = 5 ∨ 7 ≤ 4 ∧ 4 ≤ 10 ∨ 14 ≤ 4 ∧ 4 ≤ 16 ∨ 4 = 25) ∨ 80 ≤ 77 ∧ 77 ≤ 84 ∧ 8 ≤ 4 ∨ 85 ≤ 77 ∧ 77 ≤ 87 ∧ 12 ≤ 4 by decide)
                refine to_an (pc := 5) rw_152_5 rfl (to_an (pc := 6) rw_152_6 rfl ?_)
                have c_242 : M239.2.1 77 10 = (M163.2.1 77 10) := (W_n W238 (by decide) rfl)
                have b_243 := g_b hG159 (a := 77) (i := 10) (lo := 0) (hi := 500) rfl rfl
                refine tt_gI (pc := 7) rw_152_7 (g_o hG240 rfl) (v := (M163.2.1 77 10)) c_242 (s_pI (pc := 10) rw_152_10 hG240 rfl (fun M245 W244 => ?_))
                have hG246 := g_wf hG240 W244 rfl rfl (by decide)
                have F247 := FR.w F241 W244 (show 77 = 77 ∧ (5 = 4 ∨ 5 = 5 ∨ 7 ≤ 5 ∧ 5 ≤ 10 ∨ 14 ≤ 5 ∧ 5 ≤ 16 ∨ 5 = 25) ∨ 80 ≤ 77 ∧ 77 ≤ 84 ∧ 8 ≤ 5 ∨ 85 ≤ 77 ∧ 77 ≤ 87 ∧ 12 ≤ 5 by decide)
                refine to_c (pc := 13) rw_152_13 (x := (0 : Int32)) rfl rfl (s_r1 (pc := 14) rw_152_14 (A := 0) rfl (by decide) (b_ieq_t (pc := 35) rw_162_35 (A := 0) rfl (by decide) (to_c (pc := 42) rw_162_42 (x := (0 : Int32)) rfl rfl (s_r1 (pc := 43) rw_162_43 (A := 0) rfl (by decide) (b_ine_f (pc := 62) rw_172_62 (A := 0) rfl (by decide) (to_c (pc := 65) rw_172_65 (x := (0 : Int32)) rfl rfl (s_r1 (pc := 66) rw_172_66 (A := 0) rfl (by decide) ?_)))))))
                have k_248 : (0 : Int32).toInt = 0 := rfl
                have c_249 : M245.2.1 77 7 = (M163.2.1 77 7) := (W_n W244 (by decide) (W_n W238 (by decide) rfl))
                have t_250 : (M245.2.1 77 7).toInt = (M163.2.1 77 7).toInt := congrArg Int32.toInt c_249
                have c_251 : M245.2.1 77 6 = (M.2.1 77 6) := (W_n W244 (by decide) (W_n W238 (by decide) c_166))
                have t_252 : (M245.2.1 77 6).toInt = (M.2.1 77 6).toInt := congrArg Int32.toInt c_251
                have c_253 : M245.2.1 77 8 = (M163.2.1 77 8) := (W_n W244 (by decide) (W_n W238 (by decide) rfl))
                have t_254 : (M245.2.1 77 8).toInt = (M163.2.1 77 8).toInt := congrArg Int32.toInt c_253
                have j_255 := (FA_f (fun a i z => W_n W244 (tg_320 a i z) rfl) (FA_f (fun a i z => W_n W238 (tg_321 a i z) rfl) (FA_f (tg_309 F158) q4)))
                have j_256 := (WR_f (fun a i z => W_n W244 (by /-r77,5-/ omega) rfl) (WR_f (fun a i z => W_n W238 (by /-r77,4-/ omega) rfl) (WR_f (tg_311 F158) q5)))
                have c_257 : M245.2.1 77 4 = (2 : Int32) := (W_n W244 (by decide) (W_e W238))
                have k_258 : (2 : Int32).toInt = 2 := rfl
                have t_259 : (M245.2.1 77 4).toInt = (2 : Int32).toInt := congrArg Int32.toInt c_257
                have c_260 : M245.2.1 77 5 = (M163.2.1 77 10) := (W_e W244)
                have t_261 : (M245.2.1 77 5).toInt = (M163.2.1 77 10).toInt := congrArg Int32.toInt c_260
                exact h (0 : Int32) M245 hG246 F247 (by decide) (by decide) (by omega) (by omega) (by omega) (by omega) j_255 j_256 (by omega)
          · refine to_an (pc := 8) rw_162_8 rfl (to_c (pc := 9) rw_162_9 (x := (1 : Int32)) rfl rfl (s_v (pc := 10) rw_162_10 (dp1 hd (by decide)) (ls0 := [.ref 77, .int (1 : Int32)]) rfl (Nat.le_of_ble_eq_true rfl) (Nat.le_of_ble_eq_true rfl) rfl (to_rc rfl rfl rfl (g_o hG159 rfl)) rfl (to_an (pc := 0) rw_152_0 rfl (to_in (pc := 1) rw_152_1 rfl (s_pI (pc := 2) rw_152_2 hG159 rfl (fun M263 W262 => ?_))))))
            have hG264 := g_wf hG159 W262 rfl rfl (by decide)
            have F265 := FR.w F164 W262 (show 77 = 77 ∧ (4 = 4 ∨ 4 = 5 ∨ 7 ≤ 4 ∧ 4 ≤ 10 ∨ 14 ≤ 4 ∧ 4 ≤ 16 ∨ 4 = 25) ∨ 80 ≤ 77 ∧ 77 ≤ 84 ∧ 8 ≤ 4 ∨ 85 ≤ 77 ∧ 77 ≤ 87 ∧ 12 ≤ 4 by decide)
            refine to_an (pc := 5) rw_152_5 rfl (to_an (pc := 6) rw_152_6 rfl ?_)
            have c_266 : M263.2.1 77 10 = (M163.2.1 77 10) := (W_n W262 (by decide) rfl)
            have b_267 := g_b hG159 (a := 77) (i := 10) (lo := 0) (hi := 500) rfl rfl
            refine tt_gI (pc := 7) rw_152_7 (g_o hG264 rfl) (v := (M163.2.1 77 10)) c_266 (s_pI (pc := 10) rw_152_10 hG264 rfl (fun M269 W268 => ?_))
            have hG270 := g_wf hG264 W268 rfl rfl (by decide)
            have F271 := FR.w F265 W268 (show 77 = 77 ∧ (5 = 4 ∨ 5 = 5 ∨ 7 ≤ 5 ∧ 5 ≤ 10 ∨ 14 ≤ 5 ∧ 5 ≤ 16 ∨ 5 = 25) ∨ 80 ≤ 77 ∧ 77 ≤ 84 ∧ 8 ≤ 5 ∨ 85 ≤ 77 ∧ 77 ≤ 87 ∧ 12 ≤ 5 by decide)
            refine to_c (pc := 13) rw_152_13 (x := (0 : Int32)) rfl rfl (s_r1 (pc := 14) rw_152_14 (A := 0) rfl (by decide) (s_r1 (pc := 13) rw_162_13 (A := 0) rfl (by decide) (b_ine_f (pc := 62) rw_172_62 (A := 0) rfl (by decide) (to_c (pc := 65) rw_172_65 (x := (0 : Int32)) rfl rfl (s_r1 (pc := 66) rw_172_66 (A := 0) rfl (by decide) ?_)))))
            have k_272 : (0 : Int32).toInt = 0 := rfl
            have c_273 : M269.2.1 77 7 = (M163.2.1 77 7) := (W_n W268 (by decide) (W_n W262 (by decide) rfl))
            have t_274 : (M269.2.1 77 7).toInt = (M163.2.1 77 7).toInt := congrArg Int32.toInt c_273
            have c_275 : M269.2.1 77 6 = (M.2.1 77 6) := (W_n W268 (by decide) (W_n W262 (by decide) c_166))
            have t_276 : (M269.2.1 77 6).toInt = (M.2.1 77 6).toInt := congrArg Int32.toInt c_275
            have c_277 : M269.2.1 77 8 = (M163.2.1 77 8) := (W_n W268 (by decide) (W_n W262 (by decide) rfl))
            have t_278 : (M269.2.1 77 8).toInt = (M163.2.1 77 8).toInt := congrArg Int32.toInt c_277
            have j_279 := (FA_f (fun a i z => W_n W268 (tg_320 a i z) rfl) (FA_f (fun a i z => W_n W262 (tg_321 a i z) rfl) (FA_f (tg_309 F158) q4)))
            have j_280 := (WR_f (fun a i z => W_n W268 (by /-r77,5-/ omega) rfl) (WR_f (fun a i z => W_n W262 (by /-r77,4-/ omega) rfl) (WR_f (tg_311 F158) q5)))
            have c_281 : M269.2.1 77 4 = (1 : Int32) := (W_n W268 (by decide) (W_e W262))
            have k_282 : (1 : Int32).toInt = 1 := rfl
            have t_283 : (M269.2.1 77 4).toInt = (1 : Int32).toInt := congrArg Int32.toInt c_281
            have c_284 : M269.2.1 77 5 = (M163.2.1 77 10) := (W_e W268)
            have t_285 : (M269.2.1 77 5).toInt = (M163.2.1 77 10).toInt := congrArg Int32.toInt c_284
            exact h (0 : Int32) M269 hG270 F271 (by decide) (by decide) (by omega) (by omega) (by omega) (by omega) j_279 j_280 (by omega)
        · refine to_an (pc := 27) rw_172_27 rfl (to_c (pc := 28) rw_172_28 (x := (1 : Int32)) rfl rfl (s_v (pc := 29) rw_172_29 (dp0 hd (by decide)) (ls0 := [.ref 77, .int (1 : Int32)]) rfl (Nat.le_of_ble_eq_true rfl) (Nat.le_of_ble_eq_true rfl) rfl (to_rc rfl rfl rfl (g_o hG rfl)) rfl (to_an (pc := 0) rw_152_0 rfl (to_in (pc := 1) rw_152_1 rfl (s_pI (pc := 2) rw_152_2 hG rfl (fun M287 W286 => ?_))))))
          have hG288 := g_wf hG W286 rfl rfl (by decide)
          have F289 := FR.w F0 W286 (show 77 = 77 ∧ (4 = 4 ∨ 4 = 5 ∨ 7 ≤ 4 ∧ 4 ≤ 10 ∨ 14 ≤ 4 ∧ 4 ≤ 16 ∨ 4 = 25) ∨ 80 ≤ 77 ∧ 77 ≤ 84 ∧ 8 ≤ 4 ∨ 85 ≤ 77 ∧ 77 ≤ 87 ∧ 12 ≤ 4 by decide)
          refine to_an (pc := 5) rw_152_5 rfl (to_an (pc := 6) rw_152_6 rfl ?_)
          have c_290 : M287.2.1 77 10 = (M.2.1 77 10) := (W_n W286 (by decide) rfl)
          have b_291 := g_b hG (a := 77) (i := 10) (lo := 0) (hi := 500) rfl rfl
          refine tt_gI (pc := 7) rw_152_7 (g_o hG288 rfl) (v := (M.2.1 77 10)) c_290 (s_pI (pc := 10) rw_152_10 hG288 rfl (fun M293 W292 => ?_))
          have hG294 := g_wf hG288 W292 rfl rfl (by decide)
          have F295 := FR.w F289 W292 (show 77 = 77 ∧ (5 = 4 ∨ 5 = 5 ∨ 7 ≤ 5 ∧ 5 ≤ 10 ∨ 14 ≤ 5 ∧ 5 ≤ 16 ∨ 5 = 25) ∨ 80 ≤ 77 ∧ 77 ≤ 84 ∧ 8 ≤ 5 ∨ 85 ≤ 77 ∧ 77 ≤ 87 ∧ 12 ≤ 5 by decide)
          refine to_c (pc := 13) rw_152_13 (x := (0 : Int32)) rfl rfl (s_r1 (pc := 14) rw_152_14 (A := 0) rfl (by decide) (s_r1 (pc := 32) rw_172_32 (A := 0) rfl (by decide) ?_))
          have k_296 : (0 : Int32).toInt = 0 := rfl
          have c_297 : M293.2.1 77 7 = (M.2.1 77 7) := (W_n W292 (by decide) (W_n W286 (by decide) rfl))
          have t_298 : (M293.2.1 77 7).toInt = (M.2.1 77 7).toInt := congrArg Int32.toInt c_297
          have c_299 : M293.2.1 77 6 = (M.2.1 77 6) := (W_n W292 (by decide) (W_n W286 (by decide) rfl))
          have t_300 : (M293.2.1 77 6).toInt = (M.2.1 77 6).toInt := congrArg Int32.toInt c_299
          have c_301 : M293.2.1 77 8 = (M.2.1 77 8) := (W_n W292 (by decide) (W_n W286 (by decide) rfl))
          have t_302 : (M293.2.1 77 8).toInt = (M.2.1 77 8).toInt := congrArg Int32.toInt c_301
          have j_303 := (FA_f (fun a i z => W_n W292 (tg_320 a i z) rfl) (FA_f (fun a i z => W_n W286 (tg_321 a i z) rfl) q4))
          have j_304 := (WR_f (fun a i z => W_n W292 (by /-r77,5-/ omega) rfl) (WR_f (fun a i z => W_n W286 (by /-r77,4-/ omega) rfl) q5))
          have c_305 : M293.2.1 77 4 = (1 : Int32) := (W_n W292 (by decide) (W_e W286))
          have k_306 : (1 : Int32).toInt = 1 := rfl
          have t_307 : (M293.2.1 77 4).toInt = (1 : Int32).toInt := congrArg Int32.toInt c_305
          have c_308 : M293.2.1 77 5 = (M.2.1 77 10) := (W_e W292)
          have t_309 : (M293.2.1 77 5).toInt = (M.2.1 77 10).toInt := congrArg Int32.toInt c_308
          exact h (0 : Int32) M293 hG294 F295 (by decide) (by decide) (by omega) (by omega) (by omega) (by omega) j_303 j_304 (by omega)
