section
theorem tg_218 {M M1 : mm_M} (F : FR (fun a i : Nat => a < 0) M M1) : ∀ a i : Nat, (81 ≤ a ∧ a ≤ 84) → M1.2.1 a i = M.2.1 a i := fun a i z => F_n F (show ¬ (a < 0) by omega) rfl
theorem tg_219 {M M1 : mm_M} (F : FR (fun a i : Nat => a < 0) M M1) : ∀ a i : Nat, WR_r a i → M1.2.1 a i = M.2.1 a i := fun a i z => F_n F (show ¬ (a < 0) by omega) rfl
theorem tg_220 {M M1 : mm_M} (F : FR (fun a i : Nat => a = 77 ∧ 7 ≤ i ∧ i ≤ 10) M M1) : ∀ a i : Nat, (81 ≤ a ∧ a ≤ 84) → M1.2.1 a i = M.2.1 a i := fun a i z => F_n F (show ¬ (a = 77 ∧ 7 ≤ i ∧ i ≤ 10) by omega) rfl
theorem tg_221 {M M1 : mm_M} (F : FR (fun a i : Nat => a = 77 ∧ (i = 4 ∨ i = 5)) M M1) : ∀ a i : Nat, (81 ≤ a ∧ a ≤ 84) → M1.2.1 a i = M.2.1 a i := fun a i z => F_n F (show ¬ (a = 77 ∧ (i = 4 ∨ i = 5)) by omega) rfl
theorem tg_222 {M M1 : mm_M} (F : FR (fun a i : Nat => a = 77 ∧ 7 ≤ i ∧ i ≤ 10) M M1) : ∀ a i : Nat, WR_r a i → M1.2.1 a i = M.2.1 a i := fun a i z => F_n F (show ¬ (a = 77 ∧ 7 ≤ i ∧ i ≤ 10) by omega) rfl
theorem tg_223 {M M1 : mm_M} (F : FR (fun a i : Nat => a = 77 ∧ (i = 4 ∨ i = 5)) M M1) : ∀ a i : Nat, WR_r a i → M1.2.1 a i = M.2.1 a i := fun a i z => F_n F (show ¬ (a = 77 ∧ (i = 4 ∨ i = 5)) by omega) rfl
theorem tg_224 {M M1 : mm_M} (F : FR (fun a i : Nat => a = 77 ∧ (i = 4 ∨ i = 5 ∨ 7 ≤ i ∧ i ≤ 10)) M M1) : ∀ a i : Nat, (81 ≤ a ∧ a ≤ 84) → M1.2.1 a i = M.2.1 a i := fun a i z => F_n F (show ¬ (a = 77 ∧ (i = 4 ∨ i = 5 ∨ 7 ≤ i ∧ i ≤ 10)) by omega) rfl
theorem tg_225 {M M1 : mm_M} (F : FR (fun a i : Nat => a = 77 ∧ (i = 4 ∨ i = 5 ∨ 7 ≤ i ∧ i ≤ 10 ∨ i = 16) ∨ 85 ≤ a ∧ a ≤ 87 ∧ 12 ≤ i) M M1) : ∀ a i : Nat, (81 ≤ a ∧ a ≤ 84) → M1.2.1 a i = M.2.1 a i := fun a i z => F_n F (show ¬ (a = 77 ∧ (i = 4 ∨ i = 5 ∨ 7 ≤ i ∧ i ≤ 10 ∨ i = 16) ∨ 85 ≤ a ∧ a ≤ 87 ∧ 12 ≤ i) by omega) rfl
theorem tg_226 {M M1 : mm_M} (F : FR (fun a i : Nat => a = 77 ∧ (i = 4 ∨ i = 5 ∨ 7 ≤ i ∧ i ≤ 10)) M M1) : ∀ a i : Nat, WR_r a i → M1.2.1 a i = M.2.1 a i := fun a i z => F_n F (show ¬ (a = 77 ∧ (i = 4 ∨ i = 5 ∨ 7 ≤ i ∧ i ≤ 10)) by omega) rfl
theorem tg_227 : ∀ a i : Nat, (a < 0) → (a = 77 ∧ (i = 4 ∨ i = 5 ∨ 7 ≤ i ∧ i ≤ 10 ∨ 14 ≤ i ∧ i ≤ 16 ∨ i = 25) ∨ 80 ≤ a ∧ a ≤ 84 ∧ 8 ≤ i ∨ 85 ≤ a ∧ a ≤ 87 ∧ 12 ≤ i) := fun a i z => by omega
theorem tg_228 : ∀ a i : Nat, (a = 77 ∧ (i = 4 ∨ i = 5 ∨ 7 ≤ i ∧ i ≤ 10 ∨ 14 ≤ i ∧ i ≤ 16 ∨ i = 25) ∨ 80 ≤ a ∧ a ≤ 84 ∧ 8 ≤ i ∨ 85 ≤ a ∧ a ≤ 87 ∧ 12 ≤ i) → (a = 77 ∧ (i = 4 ∨ i = 5 ∨ 7 ≤ i ∧ i ≤ 10 ∨ 14 ≤ i ∧ i ≤ 16 ∨ i = 25) ∨ 80 ≤ a ∧ a ≤ 84 ∧ 8 ≤ i ∨ 85 ≤ a ∧ a ≤ 87 ∧ 12 ≤ i) := fun a i z => by omega
theorem tg_229 : ∀ a i j : Nat, (81 ≤ a ∧ a ≤ 84) → ¬ (a = 80 ∧ i = j) := fun a i j z => by omega
theorem tg_230 : ∀ a i : Nat, (81 ≤ a ∧ a ≤ 84) → ¬ (a = 77 ∧ i = 15) := fun a i z => by omega
theorem tg_231 : ∀ a i : Nat, (81 ≤ a ∧ a ≤ 84) → ¬ (a = 77 ∧ i = 5) := fun a i z => by omega
theorem tg_232 : ∀ a i : Nat, (81 ≤ a ∧ a ≤ 84) → ¬ (a = 77 ∧ i = 4) := fun a i z => by omega
theorem tg_233 : ∀ a i : Nat, (81 ≤ a ∧ a ≤ 84) → ¬ (a = 77 ∧ i = 14) := fun a i z => by omega
set_option maxRecDepth 4000 in
set_option maxHeartbeats 0 in
theorem T_166_0 {X : mm_X} {d : Nat} {M : mm_M} {Q : Option Value → mm_M → Prop} {n : Int32} (hX : g_X X) (hd : 0 ≤ d) (h : ∀ (r : Int32) (M1 : mm_M), g_G M1 → FR md_0 M M1 → (-1 ≤ r.toInt) → (r.toInt ≤ 7) → (r.toInt < (M.2.1 77 15).toInt) → Q (some (.int r)) M1) : ∀ nn9 : Nat, (∀ (N : mm_M) (x2 : Int32), g_G N → FR md_0 M N → (0 ≤ x2.toInt) → (x2.toInt ≤ 8) → ((N.2.1 77 15).toInt = (M.2.1 77 15).toInt) → 8 - x2.toInt < (nn9 : Int) → mm_T X d 165 2 [.ref 77, .int n, .int x2] [] N Q) := by
  intro nn9
  induction nn9 with
  | zero =>
    intro N x2 hG F0 g1 g2 g3 hm
    have b_1 := g_b hG (a := 77) (i := 15) (lo := 0) (hi := 8) rfl rfl
    exfalso; omega
  | succ nn9 ih =>
    intro N x2 hG F0 g1 g2 g3 hm
    have b_2 := g_b hG (a := 77) (i := 15) (lo := 0) (hi := 8) rfl rfl
    refine to_in (pc := 2) rw_166_2 rfl (to_an (pc := 3) rw_166_3 rfl (tt_gI (pc := 4) rw_166_4 (g_o hG rfl) (v := (N.2.1 77 15)) rfl (b_cge (pc := 7) rw_166_7 (A := x2.toInt) (B := (N.2.1 77 15).toInt) rfl rfl (fun h3 => ?_) (fun h3 => ?_))))
    · refine to_c (pc := 31) rw_166_31 (x := (-1 : Int32)) rfl rfl (to_r0 (pc := 32) rw_166_32 ?_)
      have k_4 : (-1 : Int32).toInt = -1 := rfl
      exact h (-1 : Int32) N hG F0 (by omega) (by omega) (by omega)
    · refine to_an (pc := 10) rw_166_10 rfl (s_gR (pc := 11) rw_166_11 hG rfl (v := 80) rfl (to_c (pc := 14) rw_166_14 (x := (8 : Int32)) rfl rfl (to_in (pc := 16) rw_166_16 rfl (s_add (pc := 17) rw_166_17 (A := 8) (B := x2.toInt) rfl rfl (by omega) (fun v5 e6 => s_ial (pc := 18) rw_166_18 hG rfl (n := 16) rfl rfl (A := v5.toInt) rfl (by omega) (by omega) (lo := -2147483648) (hi := 2147483647) rfl rfl (fun v7 w_8 _ _ => to_in (pc := 19) rw_166_19 rfl (b_cne (pc := 20) rw_166_20 (A := v7.toInt) (B := n.toInt) rfl rfl (fun h9 => ?_) (fun h9 => ?_))))))))
      · refine s_inc (pc := 25) rw_166_25 (ls2 := fun v => [.ref 77, .int n, .int v]) rfl rfl (fun _ => rfl) (A := x2.toInt) (B := 1) rfl rfl (by omega) (fun v10 e11 => to_go (pc := 28) rw_166_28 ?_)
        exact ih N v10 hG F0 (by omega) (by omega) (by omega) (by omega)
      · refine to_in (pc := 23) rw_166_23 rfl (to_r0 (pc := 24) rw_166_24 ?_)
        exact h x2 N hG F0 (by omega) (by omega) (by omega)
set_option maxRecDepth 4000 in
set_option maxHeartbeats 0 in
theorem C_166 {X : mm_X} {d : Nat} {M : mm_M} {Q : Option Value → mm_M → Prop} {n : Int32} (hX : g_X X) (hd : 0 ≤ d) (hG : g_G M) (h : ∀ (r : Int32) (M1 : mm_M), g_G M1 → FR md_0 M M1 → (-1 ≤ r.toInt) → (r.toInt ≤ 7) → (r.toInt < (M.2.1 77 15).toInt) → Q (some (.int r)) M1) : mm_T X d 165 0 [.ref 77, .int n, .null] [] M Q := by
  have F0 : FR md_0 M M := FR.rf
  refine to_c (pc := 0) rw_166_0 (x := (0 : Int32)) rfl rfl (to_isn (pc := 1) rw_166_1 (ls2 := [.ref 77, .int n, .int (0 : Int32)]) rfl rfl ?_)
  have k_12 : (0 : Int32).toInt = 0 := rfl
  have b_13 := g_b hG (a := 77) (i := 15) (lo := 0) (hi := 8) rfl rfl
  exact (T_166_0 (n := n) hX hd  h ((8 - (0 : Int32).toInt).toNat + 1)) M (0 : Int32) hG F0 (by omega) (by omega) (by omega) (by omega)
set_option maxRecDepth 4000 in
set_option maxHeartbeats 0 in
theorem T_167_0 {X : mm_X} {d : Nat} {M : mm_M} {Q : Option Value → mm_M → Prop} {n : Int32} (hX : g_X X) (hd : 1 ≤ d) (h : ∀ (r : Int32) (M1 : mm_M), g_G M1 → FR md_0 M M1 → (0 ≤ r.toInt) → (r.toInt ≤ 1) → Q (some (.int r)) M1) : ∀ nn9 : Nat, (∀ (N : mm_M) (x2 : Int32), g_G N → FR md_0 M N → (0 ≤ x2.toInt) → (x2.toInt ≤ 12) → 12 - x2.toInt < (nn9 : Int) → mm_T X d 166 2 [.ref 77, .int n, .int x2] [] N Q) := by
  intro nn9
  induction nn9 with
  | zero =>
    intro N x2 hG F0 g1 g2 hm
    exfalso; omega
  | succ nn9 ih =>
    intro N x2 hG F0 g1 g2 hm
    refine to_in (pc := 2) rw_167_2 rfl (to_an (pc := 3) rw_167_3 rfl ?_)
    have b_1 := g_b hG (a := 77) (i := 16) (lo := 0) (hi := 12) rfl rfl
    refine tt_gI (pc := 4) rw_167_4 (g_o hG rfl) (v := (N.2.1 77 16)) rfl (b_cge (pc := 7) rw_167_7 (A := x2.toInt) (B := (N.2.1 77 16).toInt) rfl rfl (fun h2 => ?_) (fun h2 => ?_))
    · refine to_an (pc := 31) rw_167_31 rfl (to_in (pc := 32) rw_167_32 rfl (s_v (pc := 33) rw_167_33 (dp0 hd (by decide)) (ls0 := [.ref 77, .int n, .null]) rfl (Nat.le_of_ble_eq_true rfl) (Nat.le_of_ble_eq_true rfl) rfl (to_rc rfl rfl rfl (g_o hG rfl)) rfl ?_))
      have b_3 := g_b hG (a := 77) (i := 15) (lo := 0) (hi := 8) rfl rfl
      refine C_166 hX (dp1 hd (by decide)) hG (n := n) (fun r4 M10 hG6 F5 p_7 p_8 p_9 => ?_)
      have F11 := FR.c F0 F5 tg_29
      refine b_ilt (pc := 36) rw_167_36 (A := r4.toInt) rfl (fun h12 => ?_) (fun h12 => ?_)
      · refine to_c (pc := 43) rw_167_43 (x := (0 : Int32)) rfl rfl (s_r1 (pc := 44) rw_167_44 (A := 0) rfl (by decide) ?_)
        have k_13 : (0 : Int32).toInt = 0 := rfl
        exact h (0 : Int32) M10 hG6 F11 (by decide) (by decide)
      · refine to_c (pc := 39) rw_167_39 (x := (1 : Int32)) rfl rfl (to_go (pc := 40) rw_167_40 (s_r1 (pc := 44) rw_167_44 (A := 1) rfl (by decide) ?_))
        have k_14 : (1 : Int32).toInt = 1 := rfl
        exact h (1 : Int32) M10 hG6 F11 (by decide) (by decide)
    · refine to_an (pc := 10) rw_167_10 rfl (s_gR (pc := 11) rw_167_11 hG rfl (v := 85) rfl (to_c (pc := 14) rw_167_14 (x := (12 : Int32)) rfl rfl (to_in (pc := 16) rw_167_16 rfl (s_add (pc := 17) rw_167_17 (A := 12) (B := x2.toInt) rfl rfl (by omega) (fun v15 e16 => s_ial (pc := 18) rw_167_18 hG rfl (n := 24) rfl rfl (A := v15.toInt) rfl (by omega) (by omega) (lo := -2147483648) (hi := 2147483647) rfl rfl (fun v17 w_18 _ _ => to_in (pc := 19) rw_167_19 rfl (b_cne (pc := 20) rw_167_20 (A := v17.toInt) (B := n.toInt) rfl rfl (fun h19 => ?_) (fun h19 => ?_))))))))
      · refine s_inc (pc := 25) rw_167_25 (ls2 := fun v => [.ref 77, .int n, .int v]) rfl rfl (fun _ => rfl) (A := x2.toInt) (B := 1) rfl rfl (by omega) (fun v20 e21 => to_go (pc := 28) rw_167_28 ?_)
        exact ih N v20 hG F0 (by omega) (by omega) (by omega)
      · refine to_c (pc := 23) rw_167_23 (x := (1 : Int32)) rfl rfl (s_r1 (pc := 24) rw_167_24 (A := 1) rfl (by decide) ?_)
        have k_22 : (1 : Int32).toInt = 1 := rfl
        exact h (1 : Int32) N hG F0 (by decide) (by decide)
set_option maxRecDepth 4000 in
set_option maxHeartbeats 0 in
theorem C_167 {X : mm_X} {d : Nat} {M : mm_M} {Q : Option Value → mm_M → Prop} {n : Int32} (hX : g_X X) (hd : 1 ≤ d) (hG : g_G M) (h : ∀ (r : Int32) (M1 : mm_M), g_G M1 → FR md_0 M M1 → (0 ≤ r.toInt) → (r.toInt ≤ 1) → Q (some (.int r)) M1) : mm_T X d 166 0 [.ref 77, .int n, .null] [] M Q := by
  have F0 : FR md_0 M M := FR.rf
  refine to_c (pc := 0) rw_167_0 (x := (0 : Int32)) rfl rfl (to_isn (pc := 1) rw_167_1 (ls2 := [.ref 77, .int n, .int (0 : Int32)]) rfl rfl ?_)
  have k_23 : (0 : Int32).toInt = 0 := rfl
  exact (T_167_0 (n := n) hX hd  h ((12 - (0 : Int32).toInt).toNat + 1)) M (0 : Int32) hG F0 (by omega) (by omega) (by omega)
set_option maxRecDepth 4000 in
set_option maxHeartbeats 0 in
theorem T_168_0 {X : mm_X} {d : Nat} {M : mm_M} {Q : Option Value → mm_M → Prop} {a : Int32} {b : Int32} (hX : g_X X) (hd : 0 ≤ d) (q1 : 0 ≤ a.toInt) (q2 : a.toInt ≤ 64) (q3 : b.toInt ≤ 63) (h : ∀ (r : Int64) (M1 : mm_M), g_G M1 → FR md_0 M M1 → Q (some (.long r)) M1) : ∀ nn9 : Nat, (∀ (N : mm_M) (u0 : Value) (y2 : Int64) (x4 : Int32), g_G N → FR md_0 M N → (0 ≤ x4.toInt) → (x4.toInt ≤ 64) → 64 - x4.toInt < (nn9 : Int) → mm_T X d 167 5 [u0, .int b, .long y2, .null, .int x4] [] N Q) := by
  intro nn9
  induction nn9 with
  | zero =>
    intro N u0 y2 x4 hG F0 g1 g2 hm
    exfalso; omega
  | succ nn9 ih =>
    intro N u0 y2 x4 hG F0 g1 g2 hm
    refine to_i (pc := 5) rw_168_5 rfl (to_in (pc := 7) rw_168_7 rfl (b_cgt (pc := 8) rw_168_8 (A := x4.toInt) (B := b.toInt) rfl rfl (fun h1 => ?_) (fun h1 => ?_)))
    · refine to_ln (pc := 24) rw_168_24 rfl rfl rfl (to_rl (pc := 25) rw_168_25 ?_)
      exact h y2 N hG F0 
    · refine to_ln (pc := 11) rw_168_11 rfl rfl rfl (s_cl (pc := 12) rw_168_12 rfl (fun l2 => to_i (pc := 13) rw_168_13 rfl (s_anyS (pc := 15) rw_168_15 (fun _ _ => rfl) (fun l3 => s_anyL (pc := 16) rw_168_16 (fun _ _ => rfl) (fun l4 => to_lsn (pc := 17) rw_168_17 (ls2 := [u0, .int b, .long l4, .null, .int x4]) rfl rfl (s_inc (pc := 18) rw_168_18 (ls2 := fun v => [u0, .int b, .long l4, .null, .int v]) rfl rfl (fun _ => rfl) (A := x4.toInt) (B := 1) rfl rfl (by omega) (fun v5 e6 => to_go (pc := 21) rw_168_21 ?_)))))))
      exact ih N (u0) l4 v5 hG F0 (by omega) (by omega) (by omega)
set_option maxRecDepth 4000 in
set_option maxHeartbeats 0 in
theorem C_168 {X : mm_X} {d : Nat} {M : mm_M} {Q : Option Value → mm_M → Prop} {a : Int32} {b : Int32} (hX : g_X X) (hd : 0 ≤ d) (hG : g_G M) (q1 : 0 ≤ a.toInt) (q2 : a.toInt ≤ 64) (q3 : b.toInt ≤ 63) (h : ∀ (r : Int64) (M1 : mm_M), g_G M1 → FR md_0 M M1 → Q (some (.long r)) M1) : mm_T X d 167 0 [.int a, .int b, .null, .null, .null] [] M Q := by
  have F0 : FR md_0 M M := FR.rf
  refine s_cl (pc := 0) rw_168_0 rfl (fun l7 => to_lsn (pc := 1) rw_168_1 (ls2 := [.int a, .int b, .long l7, .null, .null]) rfl rfl (to_in (pc := 2) rw_168_2 rfl (to_is (pc := 3) rw_168_3 (ls2 := [.int a, .int b, .long l7, .null, .int a]) rfl rfl ?_)))
  exact (T_168_0 (a := a) (b := b) hX hd q1 q2 q3 h ((64 - a.toInt).toNat + 1)) M (.int a) l7 a hG F0 (by omega) (by omega) (by omega)
set_option maxRecDepth 4000 in
set_option maxHeartbeats 0 in
theorem C_169 {X : mm_X} {d : Nat} {M : mm_M} {Q : Option Value → mm_M → Prop} (hX : g_X X) (hd : 2 ≤ d) (hG : g_G M) (h : ∀ (r : Int32) (M1 : mm_M), g_G M1 → FR md_wr2 M M1 → (0 ≤ r.toInt) → (r.toInt ≤ 1) → Q (some (.int r)) M1) : mm_T X d 168 0 [.ref 77] [] M Q := by
  have F0 : FR md_wr2 M M := FR.rf
  refine to_an (pc := 0) rw_169_0 rfl ?_
  have b_1 := g_b hG (a := 77) (i := 8) (lo := 0) (hi := 5) rfl rfl
  refine tt_gI (pc := 1) rw_169_1 (g_o hG rfl) (v := (M.2.1 77 8)) rfl (to_c (pc := 4) rw_169_4 (x := (2 : Int32)) rfl rfl (b_ceq (pc := 5) rw_169_5 (A := (M.2.1 77 8).toInt) (B := 2) rfl rfl (fun h2 => ?_) (fun h2 => ?_)))
  · refine to_an (pc := 14) rw_169_14 rfl (to_an (pc := 15) rw_169_15 rfl (tt_gI (pc := 16) rw_169_16 (g_o hG rfl) (v := (M.2.1 77 9)) rfl (s_v (pc := 19) rw_169_19 (dp0 hd (by decide)) (ls0 := [.ref 77, .int (M.2.1 77 9), .null]) rfl (Nat.le_of_ble_eq_true rfl) (Nat.le_of_ble_eq_true rfl) rfl (to_rc rfl rfl rfl (g_o hG rfl)) rfl (C_167 hX (dp1 hd (by decide)) hG (n := (M.2.1 77 9)) (fun r3 M8 hG5 F4 p_6 p_7 => ?_)))))
    have F9 := FR.c F0 F4 tg_36
    refine b_ieq (pc := 22) rw_169_22 (A := r3.toInt) rfl (fun h10 => ?_) (fun h10 => ?_)
    · refine to_c (pc := 33) rw_169_33 (x := (1 : Int32)) rfl rfl (to_go (pc := 34) rw_169_34 (s_r1 (pc := 38) rw_169_38 (A := 1) rfl (by decide) ?_))
      have k_11 : (1 : Int32).toInt = 1 := rfl
      exact h (1 : Int32) M8 hG5 F9 (by decide) (by decide)
    · refine to_an (pc := 25) rw_169_25 rfl (to_c (pc := 26) rw_169_26 (x := (3 : Int32)) rfl rfl (s_v (pc := 27) rw_169_27 (dp0 hd (by decide)) (ls0 := [.ref 77, .int (3 : Int32)]) rfl (Nat.le_of_ble_eq_true rfl) (Nat.le_of_ble_eq_true rfl) rfl (to_rc rfl rfl rfl (g_o hG5 rfl)) rfl (to_an (pc := 0) rw_152_0 rfl (to_in (pc := 1) rw_152_1 rfl (s_pI (pc := 2) rw_152_2 hG5 rfl (fun M13 W12 => ?_))))))
      have hG14 := g_wf hG5 W12 rfl rfl (by decide)
      have F15 := FR.w F9 W12 (show 77 = 77 ∧ (4 = 4 ∨ 4 = 5) by decide)
      refine to_an (pc := 5) rw_152_5 rfl (to_an (pc := 6) rw_152_6 rfl ?_)
      have c_16 : M13.2.1 77 10 = (M.2.1 77 10) := (W_n W12 (by decide) (F_n F4 (show ¬ (77 < 0) by decide) rfl))
      have b_17 := g_b hG (a := 77) (i := 10) (lo := 0) (hi := 500) rfl rfl
      refine tt_gI (pc := 7) rw_152_7 (g_o hG14 rfl) (v := (M.2.1 77 10)) c_16 (s_pI (pc := 10) rw_152_10 hG14 rfl (fun M19 W18 => ?_))
      have hG20 := g_wf hG14 W18 rfl rfl (by decide)
      have F21 := FR.w F15 W18 (show 77 = 77 ∧ (5 = 4 ∨ 5 = 5) by decide)
      refine to_c (pc := 13) rw_152_13 (x := (0 : Int32)) rfl rfl (s_r1 (pc := 14) rw_152_14 (A := 0) rfl (by decide) (b_ieq_t (pc := 30) rw_169_30 (A := 0) rfl (by decide) (to_c (pc := 37) rw_169_37 (x := (0 : Int32)) rfl rfl (s_r1 (pc := 38) rw_169_38 (A := 0) rfl (by decide) ?_))))
      have k_22 : (0 : Int32).toInt = 0 := rfl
      exact h (0 : Int32) M19 hG20 F21 (by decide) (by decide)
  · refine to_an (pc := 8) rw_169_8 rfl (to_c (pc := 9) rw_169_9 (x := (1 : Int32)) rfl rfl (s_v (pc := 10) rw_169_10 (dp0 hd (by decide)) (ls0 := [.ref 77, .int (1 : Int32)]) rfl (Nat.le_of_ble_eq_true rfl) (Nat.le_of_ble_eq_true rfl) rfl (to_rc rfl rfl rfl (g_o hG rfl)) rfl (to_an (pc := 0) rw_152_0 rfl (to_in (pc := 1) rw_152_1 rfl (s_pI (pc := 2) rw_152_2 hG rfl (fun M24 W23 => ?_))))))
    have hG25 := g_wf hG W23 rfl rfl (by decide)
    have F26 := FR.w F0 W23 (show 77 = 77 ∧ (4 = 4 ∨ 4 = 5) by decide)
    refine to_an (pc := 5) rw_152_5 rfl (to_an (pc := 6) rw_152_6 rfl ?_)
    have c_27 : M24.2.1 77 10 = (M.2.1 77 10) := (W_n W23 (by decide) rfl)
    have b_28 := g_b hG (a := 77) (i := 10) (lo := 0) (hi := 500) rfl rfl
    refine tt_gI (pc := 7) rw_152_7 (g_o hG25 rfl) (v := (M.2.1 77 10)) c_27 (s_pI (pc := 10) rw_152_10 hG25 rfl (fun M30 W29 => ?_))
    have hG31 := g_wf hG25 W29 rfl rfl (by decide)
    have F32 := FR.w F26 W29 (show 77 = 77 ∧ (5 = 4 ∨ 5 = 5) by decide)
    refine to_c (pc := 13) rw_152_13 (x := (0 : Int32)) rfl rfl (s_r1 (pc := 14) rw_152_14 (A := 0) rfl (by decide) (s_r1 (pc := 13) rw_169_13 (A := 0) rfl (by decide) ?_))
    have k_33 : (0 : Int32).toInt = 0 := rfl
    exact h (0 : Int32) M30 hG31 F32 (by decide) (by decide)
set_option maxRecDepth 4000 in
set_option maxHeartbeats 0 in
theorem C_164 {X : mm_X} {d : Nat} {M : mm_M} {Q : Option Value → mm_M → Prop} (hX : g_X X) (hd : 0 ≤ d) (hG : g_G M) (h : ∀ (M1 : mm_M), g_G M1 → FR md_p0 M M1 → ((M1.2.1 77 16).toInt = 0) → ((M1.2.1 77 15).toInt = 0) → ((M1.2.1 77 14).toInt = 10) → Q (none) M1) : mm_T X d 163 0 [.ref 77] [] M Q := by
  have F0 : FR md_p0 M M := FR.rf
  refine to_an (pc := 0) rw_164_0 rfl (to_c (pc := 1) rw_164_1 (x := (10 : Int32)) rfl rfl (s_pI (pc := 3) rw_164_3 hG rfl (fun M2 W1 => ?_)))
  have hG3 := g_w hG W1 (A := 10) rfl (lo := 10) (hi := 60) rfl rfl (by omega) (by decide)
  have F4 := FR.w F0 W1 (show 77 = 77 ∧ (14 ≤ 14 ∧ 14 ≤ 16 ∨ 14 = 25) by decide)
  refine to_an (pc := 6) rw_164_6 rfl (to_c (pc := 7) rw_164_7 (x := (0 : Int32)) rfl rfl (s_pI (pc := 8) rw_164_8 hG3 rfl (fun M6 W5 => ?_)))
  have hG7 := g_w hG3 W5 (A := 0) rfl (lo := 0) (hi := 8) rfl rfl (by omega) (by decide)
  have F8 := FR.w F4 W5 (show 77 = 77 ∧ (14 ≤ 15 ∧ 15 ≤ 16 ∨ 15 = 25) by decide)
  refine to_an (pc := 11) rw_164_11 rfl (to_c (pc := 12) rw_164_12 (x := (0 : Int32)) rfl rfl (s_pI (pc := 13) rw_164_13 hG7 rfl (fun M10 W9 => ?_)))
  have hG11 := g_w hG7 W9 (A := 0) rfl (lo := 0) (hi := 12) rfl rfl (by omega) (by decide)
  have F12 := FR.w F8 W9 (show 77 = 77 ∧ (14 ≤ 16 ∧ 16 ≤ 16 ∨ 16 = 25) by decide)
  refine to_an (pc := 16) rw_164_16 rfl (s_cl (pc := 17) rw_164_17 rfl (fun l13 => s_pJ (pc := 18) rw_164_18 hG11 rfl (fun M15 W14 => ?_)))
  have hG16 := g_wl hG11 W14
  have F17 := FR.wl F12 W14 (show 77 = 77 ∧ (14 ≤ 25 ∧ 25 ≤ 16 ∨ 25 = 25) by decide)
  refine to_rv (pc := 21) rw_164_21 ?_
  have c_18 : M15.2.1 77 16 = (0 : Int32) := (W_l W14 (W_e W9))
  have k_19 : (0 : Int32).toInt = 0 := rfl
  have t_20 : (M15.2.1 77 16).toInt = (0 : Int32).toInt := congrArg Int32.toInt c_18
  have c_21 : M15.2.1 77 15 = (0 : Int32) := (W_l W14 (W_n W9 (by decide) (W_e W5)))
  have t_22 : (M15.2.1 77 15).toInt = (0 : Int32).toInt := congrArg Int32.toInt c_21
  have c_23 : M15.2.1 77 14 = (10 : Int32) := (W_l W14 (W_n W9 (by decide) (W_n W5 (by decide) (W_e W1))))
  have k_24 : (10 : Int32).toInt = 10 := rfl
  have t_25 : (M15.2.1 77 14).toInt = (10 : Int32).toInt := congrArg Int32.toInt c_23
  exact h M15 hG16 F17 (by omega) (by omega) (by omega)
set_option maxRecDepth 4000 in
set_option maxHeartbeats 0 in
theorem T_170_0 {X : mm_X} {d : Nat} {M : mm_M} {Q : Option Value → mm_M → Prop} (hX : g_X X) (hd : 3 ≤ d) (q1 : (M.2.1 77 7).toInt ≤ (M.2.1 77 6).toInt) (q2 : FA M) (q3 : WR M) (h : ∀ (r : Int32) (M1 : mm_M), g_G M1 → FR md_pl M M1 → (0 ≤ r.toInt) → (r.toInt ≤ 1) → ((M1.2.1 77 7).toInt ≤ (M1.2.1 77 6).toInt) → ((M.2.1 77 7).toInt ≤ (M1.2.1 77 7).toInt) → (r.toInt = 1 → (M1.2.1 77 8).toInt = 0 ∨ (M.2.1 77 7).toInt < (M1.2.1 77 7).toInt) → FA M1 → WR M1 → Q (some (.int r)) M1) : ∀ nn9 : Nat, (∀ (N : mm_M) (x1 : Int32) (x2 : Int32) (x3 : Int32) (u4 : Value) (u5 : Value) (x6 : Int32) (x7 : Int32) (x8 : Int32), g_G N → FR md_pl M N → (8 ≤ x1.toInt) → (x1.toInt ≤ 15) → (x1.toInt = 8 + (N.2.1 77 15).toInt) → (0 ≤ x3.toInt) → (x3.toInt ≤ 3) → (0 ≤ x6.toInt) → (x6.toInt ≤ 59) → (0 ≤ x7.toInt) → (x7.toInt ≤ 63) → (0 ≤ x8.toInt) → (x8.toInt ≤ 24) → (((x3.toInt = 1 ∨ x3.toInt = 2) → x8.toInt ≤ 10) ∧ (x3.toInt = 3 → 1 ≤ x8.toInt ∧ x8.toInt ≤ 4 ∧ x8.toInt ≤ x7.toInt - x6.toInt + 1) ∧ x6.toInt ≤ x7.toInt) → ((N.2.1 77 7).toInt ≤ (N.2.1 77 6).toInt) → ((M.2.1 77 7).toInt ≤ (N.2.1 77 7).toInt) → ((N.2.1 77 8).toInt = 0 ∨ (M.2.1 77 7).toInt < (N.2.1 77 7).toInt) → (FA N) → (WR N) → (0 : Int) < (nn9 : Int) → mm_T X d 169 318 [.ref 77, .int x1, .int x2, .int x3, u4, u5, .int x6, .int x7, .int x8] [] N Q) := by
  intro nn9
  induction nn9 with
  | zero =>
    intro N x1 x2 x3 u4 u5 x6 x7 x8 hG F0 g1 g2 g3 g4 g5 g6 g7 g8 g9 g10 g11 g12 g13 g14 g15 g16 g17 hm
    have b_1 := g_b hG (a := 77) (i := 15) (lo := 0) (hi := 8) rfl rfl
    have b_2 := g_b hG (a := 77) (i := 7) (lo := 0) (hi := 500) rfl rfl
    have b_3 := g_b hG (a := 77) (i := 6) (lo := 0) (hi := 500) rfl rfl
    have b_4 := g_b hG (a := 77) (i := 8) (lo := 0) (hi := 5) rfl rfl
    exfalso; omega
  | succ nn9 ih =>
    intro N x1 x2 x3 u4 u5 x6 x7 x8 hG F0 g1 g2 g3 g4 g5 g6 g7 g8 g9 g10 g11 g12 g13 g14 g15 g16 g17 hm
    have b_5 := g_b hG (a := 77) (i := 15) (lo := 0) (hi := 8) rfl rfl
    have b_6 := g_b hG (a := 77) (i := 7) (lo := 0) (hi := 500) rfl rfl
    have b_7 := g_b hG (a := 77) (i := 6) (lo := 0) (hi := 500) rfl rfl
    have b_8 := g_b hG (a := 77) (i := 8) (lo := 0) (hi := 5) rfl rfl
    refine to_an (pc := 318) rw_170_318 rfl (to_dupr (pc := 319) rw_170_319 (s_gJ (pc := 320) rw_170_320 hG rfl (fun l9 => to_i (pc := 323) rw_170_323 rfl (to_i (pc := 325) rw_170_325 rfl (s_s (pc := 327) rw_170_327 (dp0 hd (by decide)) (ls0 := [.int x6, .int x7, .null, .null, .null]) rfl (Nat.le_of_ble_eq_true rfl) (Nat.le_of_ble_eq_true rfl) rfl (to_rcs rfl rfl) rfl (C_168 hX (dp1 hd (by decide)) hG (by omega) (by omega) (by omega) (a := x6) (b := x7) (fun r10 M13 hG12 F11 => ?_)))))))
    have F14 := FR.c F0 F11 tg_227
    refine s_anyL (pc := 330) rw_170_330 (fun _ _ => rfl) (fun l15 => s_pJ (pc := 331) rw_170_331 hG12 rfl (fun M17 W16 => ?_))
    have hG18 := g_wl hG12 W16
    have F19 := FR.wl F14 W16 (show 77 = 77 ∧ (25 = 4 ∨ 25 = 5 ∨ 7 ≤ 25 ∧ 25 ≤ 10 ∨ 14 ≤ 25 ∧ 25 ≤ 16 ∨ 25 = 25) ∨ 80 ≤ 77 ∧ 77 ≤ 84 ∧ 8 ≤ 25 ∨ 85 ≤ 77 ∧ 77 ≤ 87 ∧ 12 ≤ 25 by decide)
    refine to_an (pc := 334) rw_170_334 rfl (s_gR (pc := 335) rw_170_335 hG18 rfl (v := 80) rfl (to_in (pc := 338) rw_170_338 rfl (to_in (pc := 339) rw_170_339 rfl (s_ias (pc := 340) rw_170_340 hG18 rfl (n := 16) rfl (A := x1.toInt) rfl (by omega) (by omega) (fun M21 W20 => ?_)))))
    have hG22 := g_wf hG18 W20 rfl rfl (by decide)
    have F23 := FR.w F19 W20 (show 80 = 77 ∧ ((x1.toInt).toNat = 4 ∨ (x1.toInt).toNat = 5 ∨ 7 ≤ (x1.toInt).toNat ∧ (x1.toInt).toNat ≤ 10 ∨ 14 ≤ (x1.toInt).toNat ∧ (x1.toInt).toNat ≤ 16 ∨ (x1.toInt).toNat = 25) ∨ 80 ≤ 80 ∧ 80 ≤ 84 ∧ 8 ≤ (x1.toInt).toNat ∨ 85 ≤ 80 ∧ 80 ≤ 87 ∧ 12 ≤ (x1.toInt).toNat by omega)
    have j_24 := (FA_f (fun a i z => W_n W20 (tg_229 a i _ z) rfl) (FA_f (fun a i z => W_l W16 rfl) (FA_f (tg_218 F11) g16)))
    have j_25 := (WR_f (fun a i z => W_n W20 (by /-r80-/ omega) rfl) (WR_f (fun a i z => W_l W16 rfl) (WR_f (tg_219 F11) g17)))
    have c_26 : M21.2.1 77 15 = (N.2.1 77 15) := (W_n W20 (fun z => absurd z.1 (by decide)) (W_l W16 (F_n F11 (show ¬ (77 < 0) by decide) rfl)))
    have t_27 : (M21.2.1 77 15).toInt = (N.2.1 77 15).toInt := congrArg Int32.toInt c_26
    refine to_an (pc := 341) rw_170_341 rfl (s_gR (pc := 342) rw_170_342 hG22 rfl (v := 81) rfl (to_in (pc := 345) rw_170_345 rfl (to_in (pc := 346) rw_170_346 rfl (s_ias (pc := 347) rw_170_347 hG22 rfl (n := 16) rfl (A := x1.toInt) rfl (by omega) (by omega) (fun M29 W28 => ?_)))))
    have hG30 := g_w hG22 W28 (A := x3.toInt) rfl (lo := 0) (hi := 3) rfl rfl (by omega) (by decide)
    have F31 := FR.w F23 W28 (show 81 = 77 ∧ ((x1.toInt).toNat = 4 ∨ (x1.toInt).toNat = 5 ∨ 7 ≤ (x1.toInt).toNat ∧ (x1.toInt).toNat ≤ 10 ∨ 14 ≤ (x1.toInt).toNat ∧ (x1.toInt).toNat ≤ 16 ∨ (x1.toInt).toNat = 25) ∨ 80 ≤ 81 ∧ 81 ≤ 84 ∧ 8 ≤ (x1.toInt).toNat ∨ 85 ≤ 81 ∧ 81 ≤ 87 ∧ 12 ≤ (x1.toInt).toNat by omega)
    refine to_an (pc := 348) rw_170_348 rfl (s_gR (pc := 349) rw_170_349 hG30 rfl (v := 82) rfl (to_in (pc := 352) rw_170_352 rfl (to_i (pc := 353) rw_170_353 rfl (s_ias (pc := 355) rw_170_355 hG30 rfl (n := 16) rfl (A := x1.toInt) rfl (by omega) (by omega) (fun M33 W32 => ?_)))))
    have hG34 := g_w hG30 W32 (A := x6.toInt) rfl (lo := 0) (hi := 59) rfl rfl (by omega) (by decide)
    have F35 := FR.w F31 W32 (show 82 = 77 ∧ ((x1.toInt).toNat = 4 ∨ (x1.toInt).toNat = 5 ∨ 7 ≤ (x1.toInt).toNat ∧ (x1.toInt).toNat ≤ 10 ∨ 14 ≤ (x1.toInt).toNat ∧ (x1.toInt).toNat ≤ 16 ∨ (x1.toInt).toNat = 25) ∨ 80 ≤ 82 ∧ 82 ≤ 84 ∧ 8 ≤ (x1.toInt).toNat ∨ 85 ≤ 82 ∧ 82 ≤ 87 ∧ 12 ≤ (x1.toInt).toNat by omega)
    refine to_an (pc := 356) rw_170_356 rfl (s_gR (pc := 357) rw_170_357 hG34 rfl (v := 83) rfl (to_in (pc := 360) rw_170_360 rfl (to_i (pc := 361) rw_170_361 rfl (s_ias (pc := 363) rw_170_363 hG34 rfl (n := 16) rfl (A := x1.toInt) rfl (by omega) (by omega) (fun M37 W36 => ?_)))))
    have hG38 := g_w hG34 W36 (A := x7.toInt) rfl (lo := 0) (hi := 63) rfl rfl (by omega) (by decide)
    have F39 := FR.w F35 W36 (show 83 = 77 ∧ ((x1.toInt).toNat = 4 ∨ (x1.toInt).toNat = 5 ∨ 7 ≤ (x1.toInt).toNat ∧ (x1.toInt).toNat ≤ 10 ∨ 14 ≤ (x1.toInt).toNat ∧ (x1.toInt).toNat ≤ 16 ∨ (x1.toInt).toNat = 25) ∨ 80 ≤ 83 ∧ 83 ≤ 84 ∧ 8 ≤ (x1.toInt).toNat ∨ 85 ≤ 83 ∧ 83 ≤ 87 ∧ 12 ≤ (x1.toInt).toNat by omega)
    refine to_an (pc := 364) rw_170_364 rfl (s_gR (pc := 365) rw_170_365 hG38 rfl (v := 84) rfl (to_in (pc := 368) rw_170_368 rfl (to_i (pc := 369) rw_170_369 rfl (s_ias (pc := 371) rw_170_371 hG38 rfl (n := 16) rfl (A := x1.toInt) rfl (by omega) (by omega) (fun M41 W40 => ?_)))))
    have hG42 := g_w hG38 W40 (A := x8.toInt) rfl (lo := 0) (hi := 24) rfl rfl (by omega) (by decide)
    have F43 := FR.w F39 W40 (show 84 = 77 ∧ ((x1.toInt).toNat = 4 ∨ (x1.toInt).toNat = 5 ∨ 7 ≤ (x1.toInt).toNat ∧ (x1.toInt).toNat ≤ 10 ∨ 14 ≤ (x1.toInt).toNat ∧ (x1.toInt).toNat ≤ 16 ∨ (x1.toInt).toNat = 25) ∨ 80 ≤ 84 ∧ 84 ≤ 84 ∧ 8 ≤ (x1.toInt).toNat ∨ 85 ≤ 84 ∧ 84 ≤ 87 ∧ 12 ≤ (x1.toInt).toNat by omega)
    have j_44 := FA_k j_24 W28 W32 W36 W40 (by omega)
    refine to_an (pc := 372) rw_170_372 rfl (to_dupr (pc := 373) rw_170_373 ?_)
    have c_45 : M41.2.1 77 15 = (N.2.1 77 15) := (W_n W40 (fun z => absurd z.1 (by decide)) (W_n W36 (fun z => absurd z.1 (by decide)) (W_n W32 (fun z => absurd z.1 (by decide)) (W_n W28 (fun z => absurd z.1 (by decide)) c_26))))
    refine tt_gI (pc := 374) rw_170_374 (g_o hG42 rfl) (v := (N.2.1 77 15)) c_45 (to_c (pc := 377) rw_170_377 (x := (1 : Int32)) rfl rfl (s_add (pc := 378) rw_170_378 (A := (N.2.1 77 15).toInt) (B := 1) rfl rfl (by omega) (fun v46 e47 => s_pI (pc := 379) rw_170_379 hG42 rfl (fun M49 W48 => ?_))))
    have hG50 := g_w hG42 W48 (A := v46.toInt) rfl (lo := 0) (hi := 8) rfl rfl (by omega) (by decide)
    have F51 := FR.w F43 W48 (show 77 = 77 ∧ (15 = 4 ∨ 15 = 5 ∨ 7 ≤ 15 ∧ 15 ≤ 10 ∨ 14 ≤ 15 ∧ 15 ≤ 16 ∨ 15 = 25) ∨ 80 ≤ 77 ∧ 77 ≤ 84 ∧ 8 ≤ 15 ∨ 85 ≤ 77 ∧ 77 ≤ 87 ∧ 12 ≤ 15 by decide)
    have j_52 := WR_field (M1 := M49) (n := ((M21.2.1 77 15).toInt).toNat) j_25 (by omega) (W_n W48 (by omega) (W_n W40 (by omega) (W_n W36 (by omega) (W_n W32 (by omega) (W_n W28 (by omega) rfl))))) (fun i => (W_n W48 (by omega) (W_n W40 (by omega) (W_n W36 (by omega) (W_n W32 (by omega) (W_n W28 (by omega) rfl)))))) (fun i z => (W_n W48 (by omega) (W_n W40 (by omega) (W_n W36 (by omega) (W_n W32 (by omega) (W_n W28 (by omega) rfl)))))) (by have z := congrArg Int32.toInt (W_e W48); omega)
    refine to_c (pc := 382) rw_170_382 (x := (1 : Int32)) rfl rfl (s_r1 (pc := 383) rw_170_383 (A := 1) rfl (by decide) ?_)
    have k_53 : (1 : Int32).toInt = 1 := rfl
    have c_54 : M49.2.1 77 7 = (N.2.1 77 7) := (W_n W48 (by decide) (W_n W40 (fun z => absurd z.1 (by decide)) (W_n W36 (fun z => absurd z.1 (by decide)) (W_n W32 (fun z => absurd z.1 (by decide)) (W_n W28 (fun z => absurd z.1 (by decide)) (W_n W20 (fun z => absurd z.1 (by decide)) (W_l W16 (F_n F11 (show ¬ (77 < 0) by decide) rfl))))))))
    have t_55 : (M49.2.1 77 7).toInt = (N.2.1 77 7).toInt := congrArg Int32.toInt c_54
    have c_56 : M49.2.1 77 6 = (N.2.1 77 6) := (W_n W48 (by decide) (W_n W40 (fun z => absurd z.1 (by decide)) (W_n W36 (fun z => absurd z.1 (by decide)) (W_n W32 (fun z => absurd z.1 (by decide)) (W_n W28 (fun z => absurd z.1 (by decide)) (W_n W20 (fun z => absurd z.1 (by decide)) (W_l W16 (F_n F11 (show ¬ (77 < 0) by decide) rfl))))))))
    have t_57 : (M49.2.1 77 6).toInt = (N.2.1 77 6).toInt := congrArg Int32.toInt c_56
    have c_58 : M49.2.1 77 8 = (N.2.1 77 8) := (W_n W48 (by decide) (W_n W40 (fun z => absurd z.1 (by decide)) (W_n W36 (fun z => absurd z.1 (by decide)) (W_n W32 (fun z => absurd z.1 (by decide)) (W_n W28 (fun z => absurd z.1 (by decide)) (W_n W20 (fun z => absurd z.1 (by decide)) (W_l W16 (F_n F11 (show ¬ (77 < 0) by decide) rfl))))))))
    have t_59 : (M49.2.1 77 8).toInt = (N.2.1 77 8).toInt := congrArg Int32.toInt c_58
    have j_60 := (FA_f (fun a i z => W_n W48 (tg_230 a i z) rfl) j_44)
    exact h (1 : Int32) M49 hG50 F51 (by decide) (by decide) (by omega) (by omega) (by omega) j_60 j_52
set_option maxRecDepth 4000 in
set_option maxHeartbeats 0 in
theorem C_170 {X : mm_X} {d : Nat} {M : mm_M} {Q : Option Value → mm_M → Prop} (hX : g_X X) (hd : 3 ≤ d) (hG : g_G M) (q1 : (M.2.1 77 7).toInt ≤ (M.2.1 77 6).toInt) (q2 : FA M) (q3 : WR M) (h : ∀ (r : Int32) (M1 : mm_M), g_G M1 → FR md_pl M M1 → (0 ≤ r.toInt) → (r.toInt ≤ 1) → ((M1.2.1 77 7).toInt ≤ (M1.2.1 77 6).toInt) → ((M.2.1 77 7).toInt ≤ (M1.2.1 77 7).toInt) → (r.toInt = 1 → (M1.2.1 77 8).toInt = 0 ∨ (M.2.1 77 7).toInt < (M1.2.1 77 7).toInt) → FA M1 → WR M1 → Q (some (.int r)) M1) : mm_T X d 169 0 [.ref 77, .null, .null, .null, .null, .null, .null, .null, .null] [] M Q := by
  have F0 : FR md_pl M M := FR.rf
  have b_61 := g_b hG (a := 77) (i := 7) (lo := 0) (hi := 500) rfl rfl
  have b_62 := g_b hG (a := 77) (i := 6) (lo := 0) (hi := 500) rfl rfl
  refine to_an (pc := 0) rw_170_0 rfl ?_
  have b_63 := g_b hG (a := 77) (i := 15) (lo := 0) (hi := 8) rfl rfl
  refine tt_gI (pc := 1) rw_170_1 (g_o hG rfl) (v := (M.2.1 77 15)) rfl (to_c (pc := 4) rw_170_4 (x := (8 : Int32)) rfl rfl (b_cne (pc := 6) rw_170_6 (A := (M.2.1 77 15).toInt) (B := 8) rfl rfl (fun h64 => ?_) (fun h64 => ?_)))
  · refine to_an (pc := 15) rw_170_15 rfl (s_v (pc := 16) rw_170_16 (dp0 hd (by decide)) (ls0 := [.ref 77]) rfl (Nat.le_of_ble_eq_true rfl) (Nat.le_of_ble_eq_true rfl) rfl (to_rc rfl rfl rfl (g_o hG rfl)) rfl (C_156 hX (dp1 hd (by decide)) hG (by omega)  (fun M70 hG66 F65 p_67 p_68 p_69 => ?_)))
    have F71 := FR.c F0 F65 tg_79
    have b_72 := g_b hG66 (a := 77) (i := 7) (lo := 0) (hi := 500) rfl rfl
    have c_73 : M70.2.1 77 6 = (M.2.1 77 6) := (F_n F65 (show ¬ (77 = 77 ∧ 7 ≤ 6 ∧ 6 ≤ 10) by decide) rfl)
    have t_74 : (M70.2.1 77 6).toInt = (M.2.1 77 6).toInt := congrArg Int32.toInt c_73
    have b_75 := g_b hG66 (a := 77) (i := 8) (lo := 0) (hi := 5) rfl rfl
    refine to_an (pc := 19) rw_170_19 rfl (s_v (pc := 20) rw_170_20 (dp0 hd (by decide)) (ls0 := [.ref 77]) rfl (Nat.le_of_ble_eq_true rfl) (Nat.le_of_ble_eq_true rfl) rfl (to_rc rfl rfl rfl (g_o hG66 rfl)) rfl (C_169 hX (dp1 hd (by decide)) hG66  (fun r76 M81 hG78 F77 p_79 p_80 => ?_)))
    have F82 := FR.c F71 F77 tg_80
    refine b_ine (pc := 23) rw_170_23 (A := r76.toInt) rfl (fun h83 => ?_) (fun h83 => ?_)
    · refine to_c (pc := 28) rw_170_28 (x := (8 : Int32)) rfl rfl (to_an (pc := 30) rw_170_30 rfl ?_)
      have c_84 : M81.2.1 77 15 = (M.2.1 77 15) := (F_n F77 (show ¬ (77 = 77 ∧ (15 = 4 ∨ 15 = 5)) by decide) (F_n F65 (show ¬ (77 = 77 ∧ 7 ≤ 15 ∧ 15 ≤ 10) by decide) rfl))
      refine tt_gI (pc := 31) rw_170_31 (g_o hG78 rfl) (v := (M.2.1 77 15)) c_84 (s_add (pc := 34) rw_170_34 (A := 8) (B := (M.2.1 77 15).toInt) rfl rfl (by omega) (fun v85 e86 => to_isn (pc := 35) rw_170_35 (ls2 := [.ref 77, .int v85, .null, .null, .null, .null, .null, .null, .null]) rfl rfl (to_an (pc := 36) rw_170_36 rfl ?_)))
      have c_87 : M81.2.1 77 9 = (M70.2.1 77 9) := (F_n F77 (show ¬ (77 = 77 ∧ (9 = 4 ∨ 9 = 5)) by decide) rfl)
      refine tt_gI (pc := 37) rw_170_37 (g_o hG78 rfl) (v := (M70.2.1 77 9)) c_87 (to_isn (pc := 40) rw_170_40 (ls2 := [.ref 77, .int v85, .int (M70.2.1 77 9), .null, .null, .null, .null, .null, .null]) rfl rfl (to_an (pc := 41) rw_170_41 rfl (s_v (pc := 42) rw_170_42 (dp0 hd (by decide)) (ls0 := [.ref 77]) rfl (Nat.le_of_ble_eq_true rfl) (Nat.le_of_ble_eq_true rfl) rfl (to_rc rfl rfl rfl (g_o hG78 rfl)) rfl ?_)))
      have c_88 : M81.2.1 77 7 = (M70.2.1 77 7) := (F_n F77 (show ¬ (77 = 77 ∧ (7 = 4 ∨ 7 = 5)) by decide) rfl)
      have t_89 : (M81.2.1 77 7).toInt = (M70.2.1 77 7).toInt := congrArg Int32.toInt c_88
      have c_90 : M81.2.1 77 6 = (M.2.1 77 6) := (F_n F77 (show ¬ (77 = 77 ∧ (6 = 4 ∨ 6 = 5)) by decide) c_73)
      have t_91 : (M81.2.1 77 6).toInt = (M.2.1 77 6).toInt := congrArg Int32.toInt c_90
      refine C_156 hX (dp1 hd (by decide)) hG78 (by omega)  (fun M97 hG93 F92 p_94 p_95 p_96 => ?_)
      have F98 := FR.c F82 F92 tg_79
      have b_99 := g_b hG93 (a := 77) (i := 7) (lo := 0) (hi := 500) rfl rfl
      have c_100 : M97.2.1 77 6 = (M.2.1 77 6) := (F_n F92 (show ¬ (77 = 77 ∧ 7 ≤ 6 ∧ 6 ≤ 10) by decide) c_90)
      have t_101 : (M97.2.1 77 6).toInt = (M.2.1 77 6).toInt := congrArg Int32.toInt c_100
      have b_102 := g_b hG93 (a := 77) (i := 8) (lo := 0) (hi := 5) rfl rfl
      refine to_an (pc := 45) rw_170_45 rfl (tt_gI (pc := 46) rw_170_46 (g_o hG93 rfl) (v := (M97.2.1 77 8)) rfl (to_c (pc := 49) rw_170_49 (x := (1 : Int32)) rfl rfl (b_cne (pc := 50) rw_170_50 (A := (M97.2.1 77 8).toInt) (B := 1) rfl rfl (fun h103 => ?_) (fun h103 => ?_))))
      · refine to_an (pc := 70) rw_170_70 rfl (to_c (pc := 71) rw_170_71 (x := (1 : Int32)) rfl rfl (s_v (pc := 72) rw_170_72 (dp0 hd (by decide)) (ls0 := [.ref 77, .int (1 : Int32)]) rfl (Nat.le_of_ble_eq_true rfl) (Nat.le_of_ble_eq_true rfl) rfl (to_rc rfl rfl rfl (g_o hG93 rfl)) rfl (to_an (pc := 0) rw_152_0 rfl (to_in (pc := 1) rw_152_1 rfl (s_pI (pc := 2) rw_152_2 hG93 rfl (fun M105 W104 => ?_))))))
        have hG106 := g_wf hG93 W104 rfl rfl (by decide)
        have F107 := FR.w F98 W104 (show 77 = 77 ∧ (4 = 4 ∨ 4 = 5 ∨ 7 ≤ 4 ∧ 4 ≤ 10 ∨ 14 ≤ 4 ∧ 4 ≤ 16 ∨ 4 = 25) ∨ 80 ≤ 77 ∧ 77 ≤ 84 ∧ 8 ≤ 4 ∨ 85 ≤ 77 ∧ 77 ≤ 87 ∧ 12 ≤ 4 by decide)
        refine to_an (pc := 5) rw_152_5 rfl (to_an (pc := 6) rw_152_6 rfl ?_)
        have c_108 : M105.2.1 77 10 = (M97.2.1 77 10) := (W_n W104 (by decide) rfl)
        have b_109 := g_b hG93 (a := 77) (i := 10) (lo := 0) (hi := 500) rfl rfl
        refine tt_gI (pc := 7) rw_152_7 (g_o hG106 rfl) (v := (M97.2.1 77 10)) c_108 (s_pI (pc := 10) rw_152_10 hG106 rfl (fun M111 W110 => ?_))
        have hG112 := g_wf hG106 W110 rfl rfl (by decide)
        have F113 := FR.w F107 W110 (show 77 = 77 ∧ (5 = 4 ∨ 5 = 5 ∨ 7 ≤ 5 ∧ 5 ≤ 10 ∨ 14 ≤ 5 ∧ 5 ≤ 16 ∨ 5 = 25) ∨ 80 ≤ 77 ∧ 77 ≤ 84 ∧ 8 ≤ 5 ∨ 85 ≤ 77 ∧ 77 ≤ 87 ∧ 12 ≤ 5 by decide)
        refine to_c (pc := 13) rw_152_13 (x := (0 : Int32)) rfl rfl (s_r1 (pc := 14) rw_152_14 (A := 0) rfl (by decide) (s_r1 (pc := 75) rw_170_75 (A := 0) rfl (by decide) ?_))
        have k_114 : (0 : Int32).toInt = 0 := rfl
        have c_115 : M111.2.1 77 7 = (M97.2.1 77 7) := (W_n W110 (by decide) (W_n W104 (by decide) rfl))
        have t_116 : (M111.2.1 77 7).toInt = (M97.2.1 77 7).toInt := congrArg Int32.toInt c_115
        have c_117 : M111.2.1 77 6 = (M.2.1 77 6) := (W_n W110 (by decide) (W_n W104 (by decide) c_100))
        have t_118 : (M111.2.1 77 6).toInt = (M.2.1 77 6).toInt := congrArg Int32.toInt c_117
        have c_119 : M111.2.1 77 8 = (M97.2.1 77 8) := (W_n W110 (by decide) (W_n W104 (by decide) rfl))
        have t_120 : (M111.2.1 77 8).toInt = (M97.2.1 77 8).toInt := congrArg Int32.toInt c_119
        have j_121 := (FA_f (fun a i z => W_n W110 (tg_231 a i z) rfl) (FA_f (fun a i z => W_n W104 (tg_232 a i z) rfl) (FA_f (tg_220 F92) (FA_f (tg_221 F77) (FA_f (tg_220 F65) q2)))))
        have j_122 := (WR_f (fun a i z => W_n W110 (by /-r77,5-/ omega) rfl) (WR_f (fun a i z => W_n W104 (by /-r77,4-/ omega) rfl) (WR_f (tg_222 F92) (WR_f (tg_223 F77) (WR_f (tg_222 F65) q3)))))
        exact h (0 : Int32) M111 hG112 F113 (by decide) (by decide) (by omega) (by omega) (by omega) j_121 j_122
      · refine to_an (pc := 53) rw_170_53 rfl (tt_gI (pc := 54) rw_170_54 (g_o hG93 rfl) (v := (M97.2.1 77 9)) rfl (to_c (pc := 57) rw_170_57 (x := (3 : Int32)) rfl rfl (b_clt (pc := 58) rw_170_58 (A := (M97.2.1 77 9).toInt) (B := 3) rfl rfl (fun h123 => ?_) (fun h123 => ?_))))
        · refine to_an (pc := 70) rw_170_70 rfl (to_c (pc := 71) rw_170_71 (x := (1 : Int32)) rfl rfl (s_v (pc := 72) rw_170_72 (dp0 hd (by decide)) (ls0 := [.ref 77, .int (1 : Int32)]) rfl (Nat.le_of_ble_eq_true rfl) (Nat.le_of_ble_eq_true rfl) rfl (to_rc rfl rfl rfl (g_o hG93 rfl)) rfl (to_an (pc := 0) rw_152_0 rfl (to_in (pc := 1) rw_152_1 rfl (s_pI (pc := 2) rw_152_2 hG93 rfl (fun M125 W124 => ?_))))))
          have hG126 := g_wf hG93 W124 rfl rfl (by decide)
          have F127 := FR.w F98 W124 (show 77 = 77 ∧ (4 = 4 ∨ 4 = 5 ∨ 7 ≤ 4 ∧ 4 ≤ 10 ∨ 14 ≤ 4 ∧ 4 ≤ 16 ∨ 4 = 25) ∨ 80 ≤ 77 ∧ 77 ≤ 84 ∧ 8 ≤ 4 ∨ 85 ≤ 77 ∧ 77 ≤ 87 ∧ 12 ≤ 4 by decide)
          refine to_an (pc := 5) rw_152_5 rfl (to_an (pc := 6) rw_152_6 rfl ?_)
          have c_128 : M125.2.1 77 10 = (M97.2.1 77 10) := (W_n W124 (by decide) rfl)
          have b_129 := g_b hG93 (a := 77) (i := 10) (lo := 0) (hi := 500) rfl rfl
          refine tt_gI (pc := 7) rw_152_7 (g_o hG126 rfl) (v := (M97.2.1 77 10)) c_128 (s_pI (pc := 10) rw_152_10 hG126 rfl (fun M131 W130 => ?_))
          have hG132 := g_wf hG126 W130 rfl rfl (by decide)
          have F133 := FR.w F127 W130 (show 77 = 77 ∧ (5 = 4 ∨ 5 = 5 ∨ 7 ≤ 5 ∧ 5 ≤ 10 ∨ 14 ≤ 5 ∧ 5 ≤ 16 ∨ 5 = 25) ∨ 80 ≤ 77 ∧ 77 ≤ 84 ∧ 8 ≤ 5 ∨ 85 ≤ 77 ∧ 77 ≤ 87 ∧ 12 ≤ 5 by decide)
          refine to_c (pc := 13) rw_152_13 (x := (0 : Int32)) rfl rfl (s_r1 (pc := 14) rw_152_14 (A := 0) rfl (by decide) (s_r1 (pc := 75) rw_170_75 (A := 0) rfl (by decide) ?_))
          have k_134 : (0 : Int32).toInt = 0 := rfl
          have c_135 : M131.2.1 77 7 = (M97.2.1 77 7) := (W_n W130 (by decide) (W_n W124 (by decide) rfl))
          have t_136 : (M131.2.1 77 7).toInt = (M97.2.1 77 7).toInt := congrArg Int32.toInt c_135
          have c_137 : M131.2.1 77 6 = (M.2.1 77 6) := (W_n W130 (by decide) (W_n W124 (by decide) c_100))
          have t_138 : (M131.2.1 77 6).toInt = (M.2.1 77 6).toInt := congrArg Int32.toInt c_137
          have c_139 : M131.2.1 77 8 = (M97.2.1 77 8) := (W_n W130 (by decide) (W_n W124 (by decide) rfl))
          have t_140 : (M131.2.1 77 8).toInt = (M97.2.1 77 8).toInt := congrArg Int32.toInt c_139
          have j_141 := (FA_f (fun a i z => W_n W130 (tg_231 a i z) rfl) (FA_f (fun a i z => W_n W124 (tg_232 a i z) rfl) (FA_f (tg_220 F92) (FA_f (tg_221 F77) (FA_f (tg_220 F65) q2)))))
          have j_142 := (WR_f (fun a i z => W_n W130 (by /-r77,5-/ omega) rfl) (WR_f (fun a i z => W_n W124 (by /-r77,4-/ omega) rfl) (WR_f (tg_222 F92) (WR_f (tg_223 F77) (WR_f (tg_222 F65) q3)))))
          exact h (0 : Int32) M131 hG132 F133 (by decide) (by decide) (by omega) (by omega) (by omega) j_141 j_142
        · refine to_an (pc := 61) rw_170_61 rfl (tt_gI (pc := 62) rw_170_62 (g_o hG93 rfl) (v := (M97.2.1 77 9)) rfl (to_c (pc := 65) rw_170_65 (x := (6 : Int32)) rfl rfl (b_cle (pc := 67) rw_170_67 (A := (M97.2.1 77 9).toInt) (B := 6) rfl rfl (fun h143 => ?_) (fun h143 => ?_))))
          · refine to_an (pc := 76) rw_170_76 rfl (tt_gI (pc := 77) rw_170_77 (g_o hG93 rfl) (v := (M97.2.1 77 9)) rfl (to_c (pc := 80) rw_170_80 (x := (3 : Int32)) rfl rfl (s_sub (pc := 81) rw_170_81 (A := (M97.2.1 77 9).toInt) (B := 3) rfl rfl (by omega) (fun v144 e145 => to_isn (pc := 82) rw_170_82 (ls2 := [.ref 77, .int v85, .int (M70.2.1 77 9), .int v144, .null, .null, .null, .null, .null]) rfl rfl (to_an (pc := 83) rw_170_83 rfl (s_v (pc := 84) rw_170_84 (dp0 hd (by decide)) (ls0 := [.ref 77]) rfl (Nat.le_of_ble_eq_true rfl) (Nat.le_of_ble_eq_true rfl) rfl (to_rc rfl rfl rfl (g_o hG93 rfl)) rfl (C_156 hX (dp1 hd (by decide)) hG93 (by omega)  (fun M151 hG147 F146 p_148 p_149 p_150 => ?_))))))))
            have F152 := FR.c F98 F146 tg_79
            have b_153 := g_b hG147 (a := 77) (i := 7) (lo := 0) (hi := 500) rfl rfl
            have c_154 : M151.2.1 77 6 = (M.2.1 77 6) := (F_n F146 (show ¬ (77 = 77 ∧ 7 ≤ 6 ∧ 6 ≤ 10) by decide) c_100)
            have t_155 : (M151.2.1 77 6).toInt = (M.2.1 77 6).toInt := congrArg Int32.toInt c_154
            have b_156 := g_b hG147 (a := 77) (i := 8) (lo := 0) (hi := 5) rfl rfl
            refine to_in (pc := 87) rw_170_87 rfl (b_ieq (pc := 88) rw_170_88 (A := v144.toInt) rfl (fun h157 => ?_) (fun h157 => ?_))
            · refine to_c (pc := 96) rw_170_96 (x := (1 : Int32)) rfl rfl (to_go (pc := 97) rw_170_97 (to_is (pc := 101) rw_170_101 (ls2 := [.ref 77, .int v85, .int (M70.2.1 77 9), .int v144, .int (1 : Int32), .null, .null, .null, .null]) rfl rfl (to_in (pc := 103) rw_170_103 rfl (to_c (pc := 104) rw_170_104 (x := (1 : Int32)) rfl rfl (b_cne_t (pc := 105) rw_170_105 (A := v144.toInt) (B := 1) rfl rfl (by omega) (to_in (pc := 112) rw_170_112 rfl (to_c (pc := 113) rw_170_113 (x := (2 : Int32)) rfl rfl (b_cne_t (pc := 114) rw_170_114 (A := v144.toInt) (B := 2) rfl rfl (by omega) (to_c (pc := 121) rw_170_121 (x := (0 : Int32)) rfl rfl (to_is (pc := 122) rw_170_122 (ls2 := [.ref 77, .int v85, .int (M70.2.1 77 9), .int v144, .int (1 : Int32), .int (0 : Int32), .null, .null, .null]) rfl rfl (to_an (pc := 124) rw_170_124 rfl ?_)))))))))))
              refine to_c (pc := 125) rw_170_125 (x := (0 : Int32)) rfl rfl (to_an (pc := 126) rw_170_126 rfl ?_)
              have c_158 : M151.2.1 77 14 = (M.2.1 77 14) := (F_n F146 (show ¬ (77 = 77 ∧ 7 ≤ 14 ∧ 14 ≤ 10) by decide) (F_n F92 (show ¬ (77 = 77 ∧ 7 ≤ 14 ∧ 14 ≤ 10) by decide) (F_n F77 (show ¬ (77 = 77 ∧ (14 = 4 ∨ 14 = 5)) by decide) (F_n F65 (show ¬ (77 = 77 ∧ 7 ≤ 14 ∧ 14 ≤ 10) by decide) rfl))))
              have b_159 := g_b hG (a := 77) (i := 14) (lo := 10) (hi := 60) rfl rfl
              refine tt_gI (pc := 127) rw_170_127 (g_o hG147 rfl) (v := (M.2.1 77 14)) c_158 (to_c (pc := 130) rw_170_130 (x := (1 : Int32)) rfl rfl (s_sub (pc := 131) rw_170_131 (A := (M.2.1 77 14).toInt) (B := 1) rfl rfl (by omega) (fun v160 e161 => to_i (pc := 132) rw_170_132 rfl (s_sub (pc := 134) rw_170_134 (A := v160.toInt) (B := 0) rfl rfl (by omega) (fun v162 e163 => s_v (pc := 135) rw_170_135 (dp0 hd (by decide)) (ls0 := [.ref 77, .int (0 : Int32), .int v162]) rfl (Nat.le_of_ble_eq_true rfl) (Nat.le_of_ble_eq_true rfl) rfl (to_rc rfl rfl rfl (g_o hG147 rfl)) rfl (to_an (pc := 0) rw_162_0 rfl (tt_gI (pc := 1) rw_162_1 (g_o hG147 rfl) (v := (M151.2.1 77 8)) rfl (to_c (pc := 4) rw_162_4 (x := (3 : Int32)) rfl rfl (b_ceq (pc := 5) rw_162_5 (A := (M151.2.1 77 8).toInt) (B := 3) rfl rfl (fun h164 => ?_) (fun h164 => ?_))))))))))
              · refine to_an (pc := 14) rw_162_14 rfl (tt_gI (pc := 15) rw_162_15 (g_o hG147 rfl) (v := (M151.2.1 77 9)) rfl (to_in (pc := 18) rw_162_18 rfl (b_clt (pc := 19) rw_162_19 (A := (M151.2.1 77 9).toInt) (B := 0) rfl rfl (fun h165 => ?_) (fun h165 => ?_))))
                · refine to_an (pc := 30) rw_162_30 rfl (to_c (pc := 31) rw_162_31 (x := (2 : Int32)) rfl rfl (s_v (pc := 32) rw_162_32 (dp1 hd (by decide)) (ls0 := [.ref 77, .int (2 : Int32)]) rfl (Nat.le_of_ble_eq_true rfl) (Nat.le_of_ble_eq_true rfl) rfl (to_rc rfl rfl rfl (g_o hG147 rfl)) rfl (to_an (pc := 0) rw_152_0 rfl (to_in (pc := 1) rw_152_1 rfl (s_pI (pc := 2) rw_152_2 hG147 rfl (fun M167 W166 => ?_))))))
                  have hG168 := g_wf hG147 W166 rfl rfl (by decide)
                  have F169 := FR.w F152 W166 (show 77 = 77 ∧ (4 = 4 ∨ 4 = 5 ∨ 7 ≤ 4 ∧ 4 ≤ 10 ∨ 14 ≤ 4 ∧ 4 ≤ 16 ∨ 4 = 25) ∨ 80 ≤ 77 ∧ 77 ≤ 84 ∧ 8 ≤ 4 ∨ 85 ≤ 77 ∧ 77 ≤ 87 ∧ 12 ≤ 4 by decide)
                  refine to_an (pc := 5) rw_152_5 rfl (to_an (pc := 6) rw_152_6 rfl ?_)
                  have c_170 : M167.2.1 77 10 = (M151.2.1 77 10) := (W_n W166 (by decide) rfl)
                  have b_171 := g_b hG147 (a := 77) (i := 10) (lo := 0) (hi := 500) rfl rfl
                  refine tt_gI (pc := 7) rw_152_7 (g_o hG168 rfl) (v := (M151.2.1 77 10)) c_170 (s_pI (pc := 10) rw_152_10 hG168 rfl (fun M173 W172 => ?_))
                  have hG174 := g_wf hG168 W172 rfl rfl (by decide)
                  have F175 := FR.w F169 W172 (show 77 = 77 ∧ (5 = 4 ∨ 5 = 5 ∨ 7 ≤ 5 ∧ 5 ≤ 10 ∨ 14 ≤ 5 ∧ 5 ≤ 16 ∨ 5 = 25) ∨ 80 ≤ 77 ∧ 77 ≤ 84 ∧ 8 ≤ 5 ∨ 85 ≤ 77 ∧ 77 ≤ 87 ∧ 12 ≤ 5 by decide)
                  refine to_c (pc := 13) rw_152_13 (x := (0 : Int32)) rfl rfl (s_r1 (pc := 14) rw_152_14 (A := 0) rfl (by decide) (b_ieq_t (pc := 35) rw_162_35 (A := 0) rfl (by decide) (to_c (pc := 42) rw_162_42 (x := (0 : Int32)) rfl rfl (s_r1 (pc := 43) rw_162_43 (A := 0) rfl (by decide) (b_ine_f (pc := 138) rw_170_138 (A := 0) rfl (by decide) (to_c (pc := 141) rw_170_141 (x := (0 : Int32)) rfl rfl (s_r1 (pc := 142) rw_170_142 (A := 0) rfl (by decide) ?_)))))))
                  have k_176 : (0 : Int32).toInt = 0 := rfl
                  have c_177 : M173.2.1 77 7 = (M151.2.1 77 7) := (W_n W172 (by decide) (W_n W166 (by decide) rfl))
                  have t_178 : (M173.2.1 77 7).toInt = (M151.2.1 77 7).toInt := congrArg Int32.toInt c_177
                  have c_179 : M173.2.1 77 6 = (M.2.1 77 6) := (W_n W172 (by decide) (W_n W166 (by decide) c_154))
                  have t_180 : (M173.2.1 77 6).toInt = (M.2.1 77 6).toInt := congrArg Int32.toInt c_179
                  have c_181 : M173.2.1 77 8 = (M151.2.1 77 8) := (W_n W172 (by decide) (W_n W166 (by decide) rfl))
                  have t_182 : (M173.2.1 77 8).toInt = (M151.2.1 77 8).toInt := congrArg Int32.toInt c_181
                  have j_183 := (FA_f (fun a i z => W_n W172 (tg_231 a i z) rfl) (FA_f (fun a i z => W_n W166 (tg_232 a i z) rfl) (FA_f (tg_220 F146) (FA_f (tg_220 F92) (FA_f (tg_221 F77) (FA_f (tg_220 F65) q2))))))
                  have j_184 := (WR_f (fun a i z => W_n W172 (by /-r77,5-/ omega) rfl) (WR_f (fun a i z => W_n W166 (by /-r77,4-/ omega) rfl) (WR_f (tg_222 F146) (WR_f (tg_222 F92) (WR_f (tg_223 F77) (WR_f (tg_222 F65) q3))))))
                  exact h (0 : Int32) M173 hG174 F175 (by decide) (by decide) (by omega) (by omega) (by omega) j_183 j_184
                · refine to_an (pc := 22) rw_162_22 rfl (tt_gI (pc := 23) rw_162_23 (g_o hG147 rfl) (v := (M151.2.1 77 9)) rfl (to_in (pc := 26) rw_162_26 rfl (b_cle (pc := 27) rw_162_27 (A := (M151.2.1 77 9).toInt) (B := v162.toInt) rfl rfl (fun h185 => ?_) (fun h185 => ?_))))
                  · refine to_c (pc := 38) rw_162_38 (x := (1 : Int32)) rfl rfl (to_go (pc := 39) rw_162_39 (s_r1 (pc := 43) rw_162_43 (A := 1) rfl (by decide) (b_ine_t (pc := 138) rw_170_138 (A := 1) rfl (by decide) (to_an (pc := 143) rw_170_143 rfl (tt_gI (pc := 144) rw_170_144 (g_o hG147 rfl) (v := (M151.2.1 77 9)) rfl (to_is (pc := 147) rw_170_147 (ls2 := [.ref 77, .int v85, .int (M70.2.1 77 9), .int v144, .int (1 : Int32), .int (0 : Int32), .int (M151.2.1 77 9), .null, .null]) rfl rfl (to_an (pc := 149) rw_170_149 rfl (s_gJ (pc := 150) rw_170_150 hG147 rfl (fun l186 => to_i (pc := 153) rw_170_153 rfl (to_i (pc := 155) rw_170_155 rfl (to_i (pc := 157) rw_170_157 rfl ?_)))))))))))
                    refine s_add (pc := 159) rw_170_159 (A := (M151.2.1 77 9).toInt) (B := 0) rfl rfl (by omega) (fun v187 e188 => s_s (pc := 160) rw_170_160 (dp0 hd (by decide)) (ls0 := [.int (M151.2.1 77 9), .int v187, .null, .null, .null]) rfl (Nat.le_of_ble_eq_true rfl) (Nat.le_of_ble_eq_true rfl) rfl (to_rcs rfl rfl) rfl (C_168 hX (dp1 hd (by decide)) hG147 (by omega) (by omega) (by omega) (a := (M151.2.1 77 9)) (b := v187) (fun r189 M192 hG191 F190 => ?_)))
                    have F193 := FR.c F152 F190 tg_227
                    refine s_anyL (pc := 163) rw_170_163 (fun _ _ => rfl) (fun l194 => s_cl (pc := 164) rw_170_164 rfl (fun l195 => s_lcmp (pc := 165) rw_170_165 (fun v196 => b_ieq (pc := 166) rw_170_166 (A := v196.toInt) rfl (fun h197 => ?_) (fun h197 => ?_))))
                    · refine to_an (pc := 175) rw_170_175 rfl (s_v (pc := 176) rw_170_176 (dp0 hd (by decide)) (ls0 := [.ref 77]) rfl (Nat.le_of_ble_eq_true rfl) (Nat.le_of_ble_eq_true rfl) rfl (to_rc rfl rfl rfl (g_o hG191 rfl)) rfl ?_)
                      have c_198 : M192.2.1 77 7 = (M151.2.1 77 7) := (F_n F190 (show ¬ (77 < 0) by decide) rfl)
                      have t_199 : (M192.2.1 77 7).toInt = (M151.2.1 77 7).toInt := congrArg Int32.toInt c_198
                      have c_200 : M192.2.1 77 6 = (M.2.1 77 6) := (F_n F190 (show ¬ (77 < 0) by decide) c_154)
                      have t_201 : (M192.2.1 77 6).toInt = (M.2.1 77 6).toInt := congrArg Int32.toInt c_200
                      refine C_156 hX (dp1 hd (by decide)) hG191 (by omega)  (fun M207 hG203 F202 p_204 p_205 p_206 => ?_)
                      have F208 := FR.c F193 F202 tg_79
                      have b_209 := g_b hG203 (a := 77) (i := 7) (lo := 0) (hi := 500) rfl rfl
                      have c_210 : M207.2.1 77 6 = (M.2.1 77 6) := (F_n F202 (show ¬ (77 = 77 ∧ 7 ≤ 6 ∧ 6 ≤ 10) by decide) c_200)
                      have t_211 : (M207.2.1 77 6).toInt = (M.2.1 77 6).toInt := congrArg Int32.toInt c_210
                      have b_212 := g_b hG203 (a := 77) (i := 8) (lo := 0) (hi := 5) rfl rfl
                      refine to_i (pc := 179) rw_170_179 rfl (to_i (pc := 181) rw_170_181 rfl (s_add (pc := 183) rw_170_183 (A := (M151.2.1 77 9).toInt) (B := 0) rfl rfl (by omega) (fun v213 e214 => to_is (pc := 184) rw_170_184 (ls2 := [.ref 77, .int v85, .int (M70.2.1 77 9), .int v144, .int (1 : Int32), .int (0 : Int32), .int (M151.2.1 77 9), .int v213, .null]) rfl rfl (to_c (pc := 186) rw_170_186 (x := (10 : Int32)) rfl rfl (to_is (pc := 188) rw_170_188 (ls2 := [.ref 77, .int v85, .int (M70.2.1 77 9), .int v144, .int (1 : Int32), .int (0 : Int32), .int (M151.2.1 77 9), .int v213, .int (10 : Int32)]) rfl rfl (to_i (pc := 190) rw_170_190 rfl (b_ieq_f (pc := 192) rw_170_192 (A := 1) rfl (by decide) (to_an (pc := 195) rw_170_195 rfl (to_in (pc := 196) rw_170_196 rfl (b_ine_f (pc := 197) rw_170_197 (A := v144.toInt) rfl (by omega) (to_i (pc := 200) rw_170_200 rfl ?_)))))))))))
                      refine to_c (pc := 202) rw_170_202 (x := (1 : Int32)) rfl rfl (s_add (pc := 203) rw_170_203 (A := (M151.2.1 77 9).toInt) (B := 1) rfl rfl (by omega) (fun v215 e216 => to_go (pc := 204) rw_170_204 (to_an (pc := 209) rw_170_209 rfl ?_)))
                      have c_217 : M207.2.1 77 14 = (M.2.1 77 14) := (F_n F202 (show ¬ (77 = 77 ∧ 7 ≤ 14 ∧ 14 ≤ 10) by decide) (F_n F190 (show ¬ (77 < 0) by decide) c_158))
                      refine tt_gI (pc := 210) rw_170_210 (g_o hG203 rfl) (v := (M.2.1 77 14)) c_217 (to_c (pc := 213) rw_170_213 (x := (1 : Int32)) rfl rfl (s_sub (pc := 214) rw_170_214 (A := (M.2.1 77 14).toInt) (B := 1) rfl rfl (by omega) (fun v218 e219 => s_v (pc := 215) rw_170_215 (dp0 hd (by decide)) (ls0 := [.ref 77, .int v215, .int v218]) rfl (Nat.le_of_ble_eq_true rfl) (Nat.le_of_ble_eq_true rfl) rfl (to_rc rfl rfl rfl (g_o hG203 rfl)) rfl (to_an (pc := 0) rw_162_0 rfl (tt_gI (pc := 1) rw_162_1 (g_o hG203 rfl) (v := (M207.2.1 77 8)) rfl (to_c (pc := 4) rw_162_4 (x := (3 : Int32)) rfl rfl (b_ceq (pc := 5) rw_162_5 (A := (M207.2.1 77 8).toInt) (B := 3) rfl rfl (fun h220 => ?_) (fun h220 => ?_))))))))
                      · refine to_an (pc := 14) rw_162_14 rfl (tt_gI (pc := 15) rw_162_15 (g_o hG203 rfl) (v := (M207.2.1 77 9)) rfl (to_in (pc := 18) rw_162_18 rfl (b_clt (pc := 19) rw_162_19 (A := (M207.2.1 77 9).toInt) (B := v215.toInt) rfl rfl (fun h221 => ?_) (fun h221 => ?_))))
                        · refine to_an (pc := 30) rw_162_30 rfl (to_c (pc := 31) rw_162_31 (x := (2 : Int32)) rfl rfl (s_v (pc := 32) rw_162_32 (dp1 hd (by decide)) (ls0 := [.ref 77, .int (2 : Int32)]) rfl (Nat.le_of_ble_eq_true rfl) (Nat.le_of_ble_eq_true rfl) rfl (to_rc rfl rfl rfl (g_o hG203 rfl)) rfl (to_an (pc := 0) rw_152_0 rfl (to_in (pc := 1) rw_152_1 rfl (s_pI (pc := 2) rw_152_2 hG203 rfl (fun M223 W222 => ?_))))))
                          have hG224 := g_wf hG203 W222 rfl rfl (by decide)
                          have F225 := FR.w F208 W222 (show 77 = 77 ∧ (4 = 4 ∨ 4 = 5 ∨ 7 ≤ 4 ∧ 4 ≤ 10 ∨ 14 ≤ 4 ∧ 4 ≤ 16 ∨ 4 = 25) ∨ 80 ≤ 77 ∧ 77 ≤ 84 ∧ 8 ≤ 4 ∨ 85 ≤ 77 ∧ 77 ≤ 87 ∧ 12 ≤ 4 by decide)
                          refine to_an (pc := 5) rw_152_5 rfl (to_an (pc := 6) rw_152_6 rfl ?_)
                          have c_226 : M223.2.1 77 10 = (M207.2.1 77 10) := (W_n W222 (by decide) rfl)
                          have b_227 := g_b hG203 (a := 77) (i := 10) (lo := 0) (hi := 500) rfl rfl
                          refine tt_gI (pc := 7) rw_152_7 (g_o hG224 rfl) (v := (M207.2.1 77 10)) c_226 (s_pI (pc := 10) rw_152_10 hG224 rfl (fun M229 W228 => ?_))
                          have hG230 := g_wf hG224 W228 rfl rfl (by decide)
                          have F231 := FR.w F225 W228 (show 77 = 77 ∧ (5 = 4 ∨ 5 = 5 ∨ 7 ≤ 5 ∧ 5 ≤ 10 ∨ 14 ≤ 5 ∧ 5 ≤ 16 ∨ 5 = 25) ∨ 80 ≤ 77 ∧ 77 ≤ 84 ∧ 8 ≤ 5 ∨ 85 ≤ 77 ∧ 77 ≤ 87 ∧ 12 ≤ 5 by decide)
                          refine to_c (pc := 13) rw_152_13 (x := (0 : Int32)) rfl rfl (s_r1 (pc := 14) rw_152_14 (A := 0) rfl (by decide) (b_ieq_t (pc := 35) rw_162_35 (A := 0) rfl (by decide) (to_c (pc := 42) rw_162_42 (x := (0 : Int32)) rfl rfl (s_r1 (pc := 43) rw_162_43 (A := 0) rfl (by decide) (b_ine_f (pc := 218) rw_170_218 (A := 0) rfl (by decide) (to_c (pc := 221) rw_170_221 (x := (0 : Int32)) rfl rfl (s_r1 (pc := 222) rw_170_222 (A := 0) rfl (by decide) ?_)))))))
                          have k_232 : (0 : Int32).toInt = 0 := rfl
                          have c_233 : M229.2.1 77 7 = (M207.2.1 77 7) := (W_n W228 (by decide) (W_n W222 (by decide) rfl))
                          have t_234 : (M229.2.1 77 7).toInt = (M207.2.1 77 7).toInt := congrArg Int32.toInt c_233
                          have c_235 : M229.2.1 77 6 = (M.2.1 77 6) := (W_n W228 (by decide) (W_n W222 (by decide) c_210))
                          have t_236 : (M229.2.1 77 6).toInt = (M.2.1 77 6).toInt := congrArg Int32.toInt c_235
                          have c_237 : M229.2.1 77 8 = (M207.2.1 77 8) := (W_n W228 (by decide) (W_n W222 (by decide) rfl))
                          have t_238 : (M229.2.1 77 8).toInt = (M207.2.1 77 8).toInt := congrArg Int32.toInt c_237
                          have j_239 := (FA_f (fun a i z => W_n W228 (tg_231 a i z) rfl) (FA_f (fun a i z => W_n W222 (tg_232 a i z) rfl) (FA_f (tg_220 F202) (FA_f (tg_218 F190) (FA_f (tg_220 F146) (FA_f (tg_220 F92) (FA_f (tg_221 F77) (FA_f (tg_220 F65) q2))))))))
                          have j_240 := (WR_f (fun a i z => W_n W228 (by /-r77,5-/ omega) rfl) (WR_f (fun a i z => W_n W222 (by /-r77,4-/ omega) rfl) (WR_f (tg_222 F202) (WR_f (tg_219 F190) (WR_f (tg_222 F146) (WR_f (tg_222 F92) (WR_f (tg_223 F77) (WR_f (tg_222 F65) q3))))))))
                          exact h (0 : Int32) M229 hG230 F231 (by decide) (by decide) (by omega) (by omega) (by omega) j_239 j_240
                        · refine to_an (pc := 22) rw_162_22 rfl (tt_gI (pc := 23) rw_162_23 (g_o hG203 rfl) (v := (M207.2.1 77 9)) rfl (to_in (pc := 26) rw_162_26 rfl (b_cle (pc := 27) rw_162_27 (A := (M207.2.1 77 9).toInt) (B := v218.toInt) rfl rfl (fun h241 => ?_) (fun h241 => ?_))))
                          · refine to_c (pc := 38) rw_162_38 (x := (1 : Int32)) rfl rfl (to_go (pc := 39) rw_162_39 (s_r1 (pc := 43) rw_162_43 (A := 1) rfl (by decide) (b_ine_t (pc := 218) rw_170_218 (A := 1) rfl (by decide) (to_an (pc := 223) rw_170_223 rfl (tt_gI (pc := 224) rw_170_224 (g_o hG203 rfl) (v := (M207.2.1 77 9)) rfl (to_is (pc := 227) rw_170_227 (ls2 := [.ref 77, .int v85, .int (M70.2.1 77 9), .int v144, .int (1 : Int32), .int (0 : Int32), .int (M151.2.1 77 9), .int (M207.2.1 77 9), .int (10 : Int32)]) rfl rfl (to_i (pc := 229) rw_170_229 rfl (to_i (pc := 231) rw_170_231 rfl (s_sub (pc := 233) rw_170_233 (A := (M207.2.1 77 9).toInt) (B := (M151.2.1 77 9).toInt) rfl rfl (by omega) (fun v242 e243 => to_c (pc := 234) rw_170_234 (x := (23 : Int32)) rfl rfl (b_cle (pc := 236) rw_170_236 (A := v242.toInt) (B := 23) rfl rfl (fun h244 => ?_) (fun h244 => ?_))))))))))))
                            · refine to_an (pc := 245) rw_170_245 rfl (s_gJ (pc := 246) rw_170_246 hG203 rfl (fun l245 => to_i (pc := 249) rw_170_249 rfl (to_i (pc := 251) rw_170_251 rfl (s_s (pc := 253) rw_170_253 (dp0 hd (by decide)) (ls0 := [.int (M151.2.1 77 9), .int (M207.2.1 77 9), .null, .null, .null]) rfl (Nat.le_of_ble_eq_true rfl) (Nat.le_of_ble_eq_true rfl) rfl (to_rcs rfl rfl) rfl (C_168 hX (dp1 hd (by decide)) hG203 (by omega) (by omega) (by omega) (a := (M151.2.1 77 9)) (b := (M207.2.1 77 9)) (fun r246 M249 hG248 F247 => ?_))))))
                              have F250 := FR.c F208 F247 tg_227
                              refine s_anyL (pc := 256) rw_170_256 (fun _ _ => rfl) (fun l251 => s_cl (pc := 257) rw_170_257 rfl (fun l252 => s_lcmp (pc := 258) rw_170_258 (fun v253 => b_ieq (pc := 259) rw_170_259 (A := v253.toInt) rfl (fun h254 => ?_) (fun h254 => ?_))))
                              · refine to_an (pc := 268) rw_170_268 rfl (s_v (pc := 269) rw_170_269 (dp0 hd (by decide)) (ls0 := [.ref 77]) rfl (Nat.le_of_ble_eq_true rfl) (Nat.le_of_ble_eq_true rfl) rfl (to_rc rfl rfl rfl (g_o hG248 rfl)) rfl ?_)
                                have c_255 : M249.2.1 77 7 = (M207.2.1 77 7) := (F_n F247 (show ¬ (77 < 0) by decide) rfl)
                                have t_256 : (M249.2.1 77 7).toInt = (M207.2.1 77 7).toInt := congrArg Int32.toInt c_255
                                have c_257 : M249.2.1 77 6 = (M.2.1 77 6) := (F_n F247 (show ¬ (77 < 0) by decide) c_210)
                                have t_258 : (M249.2.1 77 6).toInt = (M.2.1 77 6).toInt := congrArg Int32.toInt c_257
                                refine C_156 hX (dp1 hd (by decide)) hG248 (by omega)  (fun M264 hG260 F259 p_261 p_262 p_263 => ?_)
                                have F265 := FR.c F250 F259 tg_79
                                have b_266 := g_b hG260 (a := 77) (i := 7) (lo := 0) (hi := 500) rfl rfl
                                have c_267 : M264.2.1 77 6 = (M.2.1 77 6) := (F_n F259 (show ¬ (77 = 77 ∧ 7 ≤ 6 ∧ 6 ≤ 10) by decide) c_257)
                                have t_268 : (M264.2.1 77 6).toInt = (M.2.1 77 6).toInt := congrArg Int32.toInt c_267
                                have b_269 := g_b hG260 (a := 77) (i := 8) (lo := 0) (hi := 5) rfl rfl
                                refine to_i (pc := 272) rw_170_272 rfl (to_i (pc := 274) rw_170_274 rfl (s_sub (pc := 276) rw_170_276 (A := (M207.2.1 77 9).toInt) (B := (M151.2.1 77 9).toInt) rfl rfl (by omega) (fun v270 e271 => to_c (pc := 277) rw_170_277 (x := (1 : Int32)) rfl rfl (s_add (pc := 278) rw_170_278 (A := v270.toInt) (B := 1) rfl rfl (by omega) (fun v272 e273 => to_is (pc := 279) rw_170_279 (ls2 := [.ref 77, .int v85, .int (M70.2.1 77 9), .int v144, .int (1 : Int32), .int (0 : Int32), .int (M151.2.1 77 9), .int (M207.2.1 77 9), .int v272]) rfl rfl (to_in (pc := 281) rw_170_281 rfl (to_c (pc := 282) rw_170_282 (x := (3 : Int32)) rfl rfl (b_cne_t (pc := 283) rw_170_283 (A := v144.toInt) (B := 3) rfl rfl (by omega) ?_))))))))
                                have c_274 : M264.2.1 77 15 = (M.2.1 77 15) := (F_n F259 (show ¬ (77 = 77 ∧ 7 ≤ 15 ∧ 15 ≤ 10) by decide) (F_n F247 (show ¬ (77 < 0) by decide) (F_n F202 (show ¬ (77 = 77 ∧ 7 ≤ 15 ∧ 15 ≤ 10) by decide) (F_n F190 (show ¬ (77 < 0) by decide) (F_n F146 (show ¬ (77 = 77 ∧ 7 ≤ 15 ∧ 15 ≤ 10) by decide) (F_n F92 (show ¬ (77 = 77 ∧ 7 ≤ 15 ∧ 15 ≤ 10) by decide) c_84))))))
                                have t_275 : (M264.2.1 77 15).toInt = (M.2.1 77 15).toInt := congrArg Int32.toInt c_274
                                have j_276 := (FA_f (tg_220 F259) (FA_f (tg_218 F247) (FA_f (tg_220 F202) (FA_f (tg_218 F190) (FA_f (tg_220 F146) (FA_f (tg_220 F92) (FA_f (tg_221 F77) (FA_f (tg_220 F65) q2))))))))
                                have j_277 := (WR_f (tg_222 F259) (WR_f (tg_219 F247) (WR_f (tg_222 F202) (WR_f (tg_219 F190) (WR_f (tg_222 F146) (WR_f (tg_222 F92) (WR_f (tg_223 F77) (WR_f (tg_222 F65) q3))))))))
                                exact (T_170_0 hX hd q1 q2 q3 h (((0 : Int)).toNat + 1)) M264 v85 (M70.2.1 77 9) v144 (.int (1 : Int32)) (.int (0 : Int32)) (M151.2.1 77 9) (M207.2.1 77 9) v272 hG260 F265 (by omega) (by omega) (by omega) (by omega) (by omega) (by omega) (by omega) (by omega) (by omega) (by omega) (by omega) (by omega) (by omega) (by omega) (by omega) j_276 j_277 (by omega)
                              · refine to_an (pc := 262) rw_170_262 rfl (to_c (pc := 263) rw_170_263 (x := (3 : Int32)) rfl rfl (s_v (pc := 264) rw_170_264 (dp0 hd (by decide)) (ls0 := [.ref 77, .int (3 : Int32)]) rfl (Nat.le_of_ble_eq_true rfl) (Nat.le_of_ble_eq_true rfl) rfl (to_rc rfl rfl rfl (g_o hG248 rfl)) rfl (to_an (pc := 0) rw_152_0 rfl (to_in (pc := 1) rw_152_1 rfl (s_pI (pc := 2) rw_152_2 hG248 rfl (fun M279 W278 => ?_))))))
                                have hG280 := g_wf hG248 W278 rfl rfl (by decide)
                                have F281 := FR.w F250 W278 (show 77 = 77 ∧ (4 = 4 ∨ 4 = 5 ∨ 7 ≤ 4 ∧ 4 ≤ 10 ∨ 14 ≤ 4 ∧ 4 ≤ 16 ∨ 4 = 25) ∨ 80 ≤ 77 ∧ 77 ≤ 84 ∧ 8 ≤ 4 ∨ 85 ≤ 77 ∧ 77 ≤ 87 ∧ 12 ≤ 4 by decide)
                                refine to_an (pc := 5) rw_152_5 rfl (to_an (pc := 6) rw_152_6 rfl ?_)
                                have c_282 : M279.2.1 77 10 = (M207.2.1 77 10) := (W_n W278 (by decide) (F_n F247 (show ¬ (77 < 0) by decide) rfl))
                                have b_283 := g_b hG203 (a := 77) (i := 10) (lo := 0) (hi := 500) rfl rfl
                                refine tt_gI (pc := 7) rw_152_7 (g_o hG280 rfl) (v := (M207.2.1 77 10)) c_282 (s_pI (pc := 10) rw_152_10 hG280 rfl (fun M285 W284 => ?_))
                                have hG286 := g_wf hG280 W284 rfl rfl (by decide)
                                have F287 := FR.w F281 W284 (show 77 = 77 ∧ (5 = 4 ∨ 5 = 5 ∨ 7 ≤ 5 ∧ 5 ≤ 10 ∨ 14 ≤ 5 ∧ 5 ≤ 16 ∨ 5 = 25) ∨ 80 ≤ 77 ∧ 77 ≤ 84 ∧ 8 ≤ 5 ∨ 85 ≤ 77 ∧ 77 ≤ 87 ∧ 12 ≤ 5 by decide)
                                refine to_c (pc := 13) rw_152_13 (x := (0 : Int32)) rfl rfl (s_r1 (pc := 14) rw_152_14 (A := 0) rfl (by decide) (s_r1 (pc := 267) rw_170_267 (A := 0) rfl (by decide) ?_))
                                have k_288 : (0 : Int32).toInt = 0 := rfl
                                have c_289 : M285.2.1 77 7 = (M207.2.1 77 7) := (W_n W284 (by decide) (W_n W278 (by decide) (F_n F247 (show ¬ (77 < 0) by decide) rfl)))
                                have t_290 : (M285.2.1 77 7).toInt = (M207.2.1 77 7).toInt := congrArg Int32.toInt c_289
                                have c_291 : M285.2.1 77 6 = (M.2.1 77 6) := (W_n W284 (by decide) (W_n W278 (by decide) (F_n F247 (show ¬ (77 < 0) by decide) c_210)))
                                have t_292 : (M285.2.1 77 6).toInt = (M.2.1 77 6).toInt := congrArg Int32.toInt c_291
                                have c_293 : M285.2.1 77 8 = (M207.2.1 77 8) := (W_n W284 (by decide) (W_n W278 (by decide) (F_n F247 (show ¬ (77 < 0) by decide) rfl)))
                                have t_294 : (M285.2.1 77 8).toInt = (M207.2.1 77 8).toInt := congrArg Int32.toInt c_293
                                have j_295 := (FA_f (fun a i z => W_n W284 (tg_231 a i z) rfl) (FA_f (fun a i z => W_n W278 (tg_232 a i z) rfl) (FA_f (tg_218 F247) (FA_f (tg_220 F202) (FA_f (tg_218 F190) (FA_f (tg_220 F146) (FA_f (tg_220 F92) (FA_f (tg_221 F77) (FA_f (tg_220 F65) q2)))))))))
                                have j_296 := (WR_f (fun a i z => W_n W284 (by /-r77,5-/ omega) rfl) (WR_f (fun a i z => W_n W278 (by /-r77,4-/ omega) rfl) (WR_f (tg_219 F247) (WR_f (tg_222 F202) (WR_f (tg_219 F190) (WR_f (tg_222 F146) (WR_f (tg_222 F92) (WR_f (tg_223 F77) (WR_f (tg_222 F65) q3)))))))))
                                exact h (0 : Int32) M285 hG286 F287 (by decide) (by decide) (by omega) (by omega) (by omega) j_295 j_296
                            · refine to_an (pc := 239) rw_170_239 rfl (to_c (pc := 240) rw_170_240 (x := (2 : Int32)) rfl rfl (s_v (pc := 241) rw_170_241 (dp0 hd (by decide)) (ls0 := [.ref 77, .int (2 : Int32)]) rfl (Nat.le_of_ble_eq_true rfl) (Nat.le_of_ble_eq_true rfl) rfl (to_rc rfl rfl rfl (g_o hG203 rfl)) rfl (to_an (pc := 0) rw_152_0 rfl (to_in (pc := 1) rw_152_1 rfl (s_pI (pc := 2) rw_152_2 hG203 rfl (fun M298 W297 => ?_))))))
                              have hG299 := g_wf hG203 W297 rfl rfl (by decide)
                              have F300 := FR.w F208 W297 (show 77 = 77 ∧ (4 = 4 ∨ 4 = 5 ∨ 7 ≤ 4 ∧ 4 ≤ 10 ∨ 14 ≤ 4 ∧ 4 ≤ 16 ∨ 4 = 25) ∨ 80 ≤ 77 ∧ 77 ≤ 84 ∧ 8 ≤ 4 ∨ 85 ≤ 77 ∧ 77 ≤ 87 ∧ 12 ≤ 4 by decide)
                              refine to_an (pc := 5) rw_152_5 rfl (to_an (pc := 6) rw_152_6 rfl ?_)
                              have c_301 : M298.2.1 77 10 = (M207.2.1 77 10) := (W_n W297 (by decide) rfl)
                              have b_302 := g_b hG203 (a := 77) (i := 10) (lo := 0) (hi := 500) rfl rfl
                              refine tt_gI (pc := 7) rw_152_7 (g_o hG299 rfl) (v := (M207.2.1 77 10)) c_301 (s_pI (pc := 10) rw_152_10 hG299 rfl (fun M304 W303 => ?_))
                              have hG305 := g_wf hG299 W303 rfl rfl (by decide)
                              have F306 := FR.w F300 W303 (show 77 = 77 ∧ (5 = 4 ∨ 5 = 5 ∨ 7 ≤ 5 ∧ 5 ≤ 10 ∨ 14 ≤ 5 ∧ 5 ≤ 16 ∨ 5 = 25) ∨ 80 ≤ 77 ∧ 77 ≤ 84 ∧ 8 ≤ 5 ∨ 85 ≤ 77 ∧ 77 ≤ 87 ∧ 12 ≤ 5 by decide)
                              refine to_c (pc := 13) rw_152_13 (x := (0 : Int32)) rfl rfl (s_r1 (pc := 14) rw_152_14 (A := 0) rfl (by decide) (s_r1 (pc := 244) rw_170_244 (A := 0) rfl (by decide) ?_))
                              have k_307 : (0 : Int32).toInt = 0 := rfl
                              have c_308 : M304.2.1 77 7 = (M207.2.1 77 7) := (W_n W303 (by decide) (W_n W297 (by decide) rfl))
                              have t_309 : (M304.2.1 77 7).toInt = (M207.2.1 77 7).toInt := congrArg Int32.toInt c_308
                              have c_310 : M304.2.1 77 6 = (M.2.1 77 6) := (W_n W303 (by decide) (W_n W297 (by decide) c_210))
                              have t_311 : (M304.2.1 77 6).toInt = (M.2.1 77 6).toInt := congrArg Int32.toInt c_310
                              have c_312 : M304.2.1 77 8 = (M207.2.1 77 8) := (W_n W303 (by decide) (W_n W297 (by decide) rfl))
                              have t_313 : (M304.2.1 77 8).toInt = (M207.2.1 77 8).toInt := congrArg Int32.toInt c_312
                              have j_314 := (FA_f (fun a i z => W_n W303 (tg_231 a i z) rfl) (FA_f (fun a i z => W_n W297 (tg_232 a i z) rfl) (FA_f (tg_220 F202) (FA_f (tg_218 F190) (FA_f (tg_220 F146) (FA_f (tg_220 F92) (FA_f (tg_221 F77) (FA_f (tg_220 F65) q2))))))))
                              have j_315 := (WR_f (fun a i z => W_n W303 (by /-r77,5-/ omega) rfl) (WR_f (fun a i z => W_n W297 (by /-r77,4-/ omega) rfl) (WR_f (tg_222 F202) (WR_f (tg_219 F190) (WR_f (tg_222 F146) (WR_f (tg_222 F92) (WR_f (tg_223 F77) (WR_f (tg_222 F65) q3))))))))
                              exact h (0 : Int32) M304 hG305 F306 (by decide) (by decide) (by omega) (by omega) (by omega) j_314 j_315
                          · refine to_an (pc := 30) rw_162_30 rfl (to_c (pc := 31) rw_162_31 (x := (2 : Int32)) rfl rfl (s_v (pc := 32) rw_162_32 (dp1 hd (by decide)) (ls0 := [.ref 77, .int (2 : Int32)]) rfl (Nat.le_of_ble_eq_true rfl) (Nat.le_of_ble_eq_true rfl) rfl (to_rc rfl rfl rfl (g_o hG203 rfl)) rfl (to_an (pc := 0) rw_152_0 rfl (to_in (pc := 1) rw_152_1 rfl (s_pI (pc := 2) rw_152_2 hG203 rfl (fun M317 W316 => ?_))))))
                            have hG318 := g_wf hG203 W316 rfl rfl (by decide)
                            have F319 := FR.w F208 W316 (show 77 = 77 ∧ (4 = 4 ∨ 4 = 5 ∨ 7 ≤ 4 ∧ 4 ≤ 10 ∨ 14 ≤ 4 ∧ 4 ≤ 16 ∨ 4 = 25) ∨ 80 ≤ 77 ∧ 77 ≤ 84 ∧ 8 ≤ 4 ∨ 85 ≤ 77 ∧ 77 ≤ 87 ∧ 12 ≤ 4 by decide)
                            refine to_an (pc := 5) rw_152_5 rfl (to_an (pc := 6) rw_152_6 rfl ?_)
                            have c_320 : M317.2.1 77 10 = (M207.2.1 77 10) := (W_n W316 (by decide) rfl)
                            have b_321 := g_b hG203 (a := 77) (i := 10) (lo := 0) (hi := 500) rfl rfl
                            refine tt_gI (pc := 7) rw_152_7 (g_o hG318 rfl) (v := (M207.2.1 77 10)) c_320 (s_pI (pc := 10) rw_152_10 hG318 rfl (fun M323 W322 => ?_))
                            have hG324 := g_wf hG318 W322 rfl rfl (by decide)
                            have F325 := FR.w F319 W322 (show 77 = 77 ∧ (5 = 4 ∨ 5 = 5 ∨ 7 ≤ 5 ∧ 5 ≤ 10 ∨ 14 ≤ 5 ∧ 5 ≤ 16 ∨ 5 = 25) ∨ 80 ≤ 77 ∧ 77 ≤ 84 ∧ 8 ≤ 5 ∨ 85 ≤ 77 ∧ 77 ≤ 87 ∧ 12 ≤ 5 by decide)
                            refine to_c (pc := 13) rw_152_13 (x := (0 : Int32)) rfl rfl (s_r1 (pc := 14) rw_152_14 (A := 0) rfl (by decide) (b_ieq_t (pc := 35) rw_162_35 (A := 0) rfl (by decide) (to_c (pc := 42) rw_162_42 (x := (0 : Int32)) rfl rfl (s_r1 (pc := 43) rw_162_43 (A := 0) rfl (by decide) (b_ine_f (pc := 218) rw_170_218 (A := 0) rfl (by decide) (to_c (pc := 221) rw_170_221 (x := (0 : Int32)) rfl rfl (s_r1 (pc := 222) rw_170_222 (A := 0) rfl (by decide) ?_)))))))
                            have k_326 : (0 : Int32).toInt = 0 := rfl
                            have c_327 : M323.2.1 77 7 = (M207.2.1 77 7) := (W_n W322 (by decide) (W_n W316 (by decide) rfl))
                            have t_328 : (M323.2.1 77 7).toInt = (M207.2.1 77 7).toInt := congrArg Int32.toInt c_327
                            have c_329 : M323.2.1 77 6 = (M.2.1 77 6) := (W_n W322 (by decide) (W_n W316 (by decide) c_210))
                            have t_330 : (M323.2.1 77 6).toInt = (M.2.1 77 6).toInt := congrArg Int32.toInt c_329
                            have c_331 : M323.2.1 77 8 = (M207.2.1 77 8) := (W_n W322 (by decide) (W_n W316 (by decide) rfl))
                            have t_332 : (M323.2.1 77 8).toInt = (M207.2.1 77 8).toInt := congrArg Int32.toInt c_331
                            have j_333 := (FA_f (fun a i z => W_n W322 (tg_231 a i z) rfl) (FA_f (fun a i z => W_n W316 (tg_232 a i z) rfl) (FA_f (tg_220 F202) (FA_f (tg_218 F190) (FA_f (tg_220 F146) (FA_f (tg_220 F92) (FA_f (tg_221 F77) (FA_f (tg_220 F65) q2))))))))
                            have j_334 := (WR_f (fun a i z => W_n W322 (by /-r77,5-/ omega) rfl) (WR_f (fun a i z => W_n W316 (by /-r77,4-/ omega) rfl) (WR_f (tg_222 F202) (WR_f (tg_219 F190) (WR_f (tg_222 F146) (WR_f (tg_222 F92) (WR_f (tg_223 F77) (WR_f (tg_222 F65) q3))))))))
                            exact h (0 : Int32) M323 hG324 F325 (by decide) (by decide) (by omega) (by omega) (by omega) j_333 j_334
                      · refine to_an (pc := 8) rw_162_8 rfl (to_c (pc := 9) rw_162_9 (x := (1 : Int32)) rfl rfl (s_v (pc := 10) rw_162_10 (dp1 hd (by decide)) (ls0 := [.ref 77, .int (1 : Int32)]) rfl (Nat.le_of_ble_eq_true rfl) (Nat.le_of_ble_eq_true rfl) rfl (to_rc rfl rfl rfl (g_o hG203 rfl)) rfl (to_an (pc := 0) rw_152_0 rfl (to_in (pc := 1) rw_152_1 rfl (s_pI (pc := 2) rw_152_2 hG203 rfl (fun M336 W335 => ?_))))))
                        have hG337 := g_wf hG203 W335 rfl rfl (by decide)
                        have F338 := FR.w F208 W335 (show 77 = 77 ∧ (4 = 4 ∨ 4 = 5 ∨ 7 ≤ 4 ∧ 4 ≤ 10 ∨ 14 ≤ 4 ∧ 4 ≤ 16 ∨ 4 = 25) ∨ 80 ≤ 77 ∧ 77 ≤ 84 ∧ 8 ≤ 4 ∨ 85 ≤ 77 ∧ 77 ≤ 87 ∧ 12 ≤ 4 by decide)
                        refine to_an (pc := 5) rw_152_5 rfl (to_an (pc := 6) rw_152_6 rfl ?_)
                        have c_339 : M336.2.1 77 10 = (M207.2.1 77 10) := (W_n W335 (by decide) rfl)
                        have b_340 := g_b hG203 (a := 77) (i := 10) (lo := 0) (hi := 500) rfl rfl
                        refine tt_gI (pc := 7) rw_152_7 (g_o hG337 rfl) (v := (M207.2.1 77 10)) c_339 (s_pI (pc := 10) rw_152_10 hG337 rfl (fun M342 W341 => ?_))
                        have hG343 := g_wf hG337 W341 rfl rfl (by decide)
                        have F344 := FR.w F338 W341 (show 77 = 77 ∧ (5 = 4 ∨ 5 = 5 ∨ 7 ≤ 5 ∧ 5 ≤ 10 ∨ 14 ≤ 5 ∧ 5 ≤ 16 ∨ 5 = 25) ∨ 80 ≤ 77 ∧ 77 ≤ 84 ∧ 8 ≤ 5 ∨ 85 ≤ 77 ∧ 77 ≤ 87 ∧ 12 ≤ 5 by decide)
                        refine to_c (pc := 13) rw_152_13 (x := (0 : Int32)) rfl rfl (s_r1 (pc := 14) rw_152_14 (A := 0) rfl (by decide) (s_r1 (pc := 13) rw_162_13 (A := 0) rfl (by decide) (b_ine_f (pc := 218) rw_170_218 (A := 0) rfl (by decide) (to_c (pc := 221) rw_170_221 (x := (0 : Int32)) rfl rfl (s_r1 (pc := 222) rw_170_222 (A := 0) rfl (by decide) ?_)))))
                        have k_345 : (0 : Int32).toInt = 0 := rfl
                        have c_346 : M342.2.1 77 7 = (M207.2.1 77 7) := (W_n W341 (by decide) (W_n W335 (by decide) rfl))
                        have t_347 : (M342.2.1 77 7).toInt = (M207.2.1 77 7).toInt := congrArg Int32.toInt c_346
                        have c_348 : M342.2.1 77 6 = (M.2.1 77 6) := (W_n W341 (by decide) (W_n W335 (by decide) c_210))
                        have t_349 : (M342.2.1 77 6).toInt = (M.2.1 77 6).toInt := congrArg Int32.toInt c_348
                        have c_350 : M342.2.1 77 8 = (M207.2.1 77 8) := (W_n W341 (by decide) (W_n W335 (by decide) rfl))
                        have t_351 : (M342.2.1 77 8).toInt = (M207.2.1 77 8).toInt := congrArg Int32.toInt c_350
                        have j_352 := (FA_f (fun a i z => W_n W341 (tg_231 a i z) rfl) (FA_f (fun a i z => W_n W335 (tg_232 a i z) rfl) (FA_f (tg_220 F202) (FA_f (tg_218 F190) (FA_f (tg_220 F146) (FA_f (tg_220 F92) (FA_f (tg_221 F77) (FA_f (tg_220 F65) q2))))))))
                        have j_353 := (WR_f (fun a i z => W_n W341 (by /-r77,5-/ omega) rfl) (WR_f (fun a i z => W_n W335 (by /-r77,4-/ omega) rfl) (WR_f (tg_222 F202) (WR_f (tg_219 F190) (WR_f (tg_222 F146) (WR_f (tg_222 F92) (WR_f (tg_223 F77) (WR_f (tg_222 F65) q3))))))))
                        exact h (0 : Int32) M342 hG343 F344 (by decide) (by decide) (by omega) (by omega) (by omega) j_352 j_353
                    · refine to_an (pc := 169) rw_170_169 rfl (to_c (pc := 170) rw_170_170 (x := (3 : Int32)) rfl rfl (s_v (pc := 171) rw_170_171 (dp0 hd (by decide)) (ls0 := [.ref 77, .int (3 : Int32)]) rfl (Nat.le_of_ble_eq_true rfl) (Nat.le_of_ble_eq_true rfl) rfl (to_rc rfl rfl rfl (g_o hG191 rfl)) rfl (to_an (pc := 0) rw_152_0 rfl (to_in (pc := 1) rw_152_1 rfl (s_pI (pc := 2) rw_152_2 hG191 rfl (fun M355 W354 => ?_))))))
                      have hG356 := g_wf hG191 W354 rfl rfl (by decide)
                      have F357 := FR.w F193 W354 (show 77 = 77 ∧ (4 = 4 ∨ 4 = 5 ∨ 7 ≤ 4 ∧ 4 ≤ 10 ∨ 14 ≤ 4 ∧ 4 ≤ 16 ∨ 4 = 25) ∨ 80 ≤ 77 ∧ 77 ≤ 84 ∧ 8 ≤ 4 ∨ 85 ≤ 77 ∧ 77 ≤ 87 ∧ 12 ≤ 4 by decide)
                      refine to_an (pc := 5) rw_152_5 rfl (to_an (pc := 6) rw_152_6 rfl ?_)
                      have c_358 : M355.2.1 77 10 = (M151.2.1 77 10) := (W_n W354 (by decide) (F_n F190 (show ¬ (77 < 0) by decide) rfl))
                      have b_359 := g_b hG147 (a := 77) (i := 10) (lo := 0) (hi := 500) rfl rfl
                      refine tt_gI (pc := 7) rw_152_7 (g_o hG356 rfl) (v := (M151.2.1 77 10)) c_358 (s_pI (pc := 10) rw_152_10 hG356 rfl (fun M361 W360 => ?_))
                      have hG362 := g_wf hG356 W360 rfl rfl (by decide)
                      have F363 := FR.w F357 W360 (show 77 = 77 ∧ (5 = 4 ∨ 5 = 5 ∨ 7 ≤ 5 ∧ 5 ≤ 10 ∨ 14 ≤ 5 ∧ 5 ≤ 16 ∨ 5 = 25) ∨ 80 ≤ 77 ∧ 77 ≤ 84 ∧ 8 ≤ 5 ∨ 85 ≤ 77 ∧ 77 ≤ 87 ∧ 12 ≤ 5 by decide)
                      refine to_c (pc := 13) rw_152_13 (x := (0 : Int32)) rfl rfl (s_r1 (pc := 14) rw_152_14 (A := 0) rfl (by decide) (s_r1 (pc := 174) rw_170_174 (A := 0) rfl (by decide) ?_))
                      have k_364 : (0 : Int32).toInt = 0 := rfl
                      have c_365 : M361.2.1 77 7 = (M151.2.1 77 7) := (W_n W360 (by decide) (W_n W354 (by decide) (F_n F190 (show ¬ (77 < 0) by decide) rfl)))
                      have t_366 : (M361.2.1 77 7).toInt = (M151.2.1 77 7).toInt := congrArg Int32.toInt c_365
                      have c_367 : M361.2.1 77 6 = (M.2.1 77 6) := (W_n W360 (by decide) (W_n W354 (by decide) (F_n F190 (show ¬ (77 < 0) by decide) c_154)))
                      have t_368 : (M361.2.1 77 6).toInt = (M.2.1 77 6).toInt := congrArg Int32.toInt c_367
                      have c_369 : M361.2.1 77 8 = (M151.2.1 77 8) := (W_n W360 (by decide) (W_n W354 (by decide) (F_n F190 (show ¬ (77 < 0) by decide) rfl)))
                      have t_370 : (M361.2.1 77 8).toInt = (M151.2.1 77 8).toInt := congrArg Int32.toInt c_369
                      have j_371 := (FA_f (fun a i z => W_n W360 (tg_231 a i z) rfl) (FA_f (fun a i z => W_n W354 (tg_232 a i z) rfl) (FA_f (tg_218 F190) (FA_f (tg_220 F146) (FA_f (tg_220 F92) (FA_f (tg_221 F77) (FA_f (tg_220 F65) q2)))))))
                      have j_372 := (WR_f (fun a i z => W_n W360 (by /-r77,5-/ omega) rfl) (WR_f (fun a i z => W_n W354 (by /-r77,4-/ omega) rfl) (WR_f (tg_219 F190) (WR_f (tg_222 F146) (WR_f (tg_222 F92) (WR_f (tg_223 F77) (WR_f (tg_222 F65) q3)))))))
                      exact h (0 : Int32) M361 hG362 F363 (by decide) (by decide) (by omega) (by omega) (by omega) j_371 j_372
                  · refine to_an (pc := 30) rw_162_30 rfl (to_c (pc := 31) rw_162_31 (x := (2 : Int32)) rfl rfl (s_v (pc := 32) rw_162_32 (dp1 hd (by decide)) (ls0 := [.ref 77, .int (2 : Int32)]) rfl (Nat.le_of_ble_eq_true rfl) (Nat.le_of_ble_eq_true rfl) rfl (to_rc rfl rfl rfl (g_o hG147 rfl)) rfl (to_an (pc := 0) rw_152_0 rfl (to_in (pc := 1) rw_152_1 rfl (s_pI (pc := 2) rw_152_2 hG147 rfl (fun M374 W373 => ?_))))))
                    have hG375 := g_wf hG147 W373 rfl rfl (by decide)
                    have F376 := FR.w F152 W373 (show 77 = 77 ∧ (4 = 4 ∨ 4 = 5 ∨ 7 ≤ 4 ∧ 4 ≤ 10 ∨ 14 ≤ 4 ∧ 4 ≤ 16 ∨ 4 = 25) ∨ 80 ≤ 77 ∧ 77 ≤ 84 ∧ 8 ≤ 4 ∨ 85 ≤ 77 ∧ 77 ≤ 87 ∧ 12 ≤ 4 by decide)
                    refine to_an (pc := 5) rw_152_5 rfl (to_an (pc := 6) rw_152_6 rfl ?_)
                    have c_377 : M374.2.1 77 10 = (M151.2.1 77 10) := (W_n W373 (by decide) rfl)
                    have b_378 := g_b hG147 (a := 77) (i := 10) (lo := 0) (hi := 500) rfl rfl
                    refine tt_gI (pc := 7) rw_152_7 (g_o hG375 rfl) (v := (M151.2.1 77 10)) c_377 (s_pI (pc := 10) rw_152_10 hG375 rfl (fun M380 W379 => ?_))
                    have hG381 := g_wf hG375 W379 rfl rfl (by decide)
                    have F382 := FR.w F376 W379 (show 77 = 77 ∧ (5 = 4 ∨ 5 = 5 ∨ 7 ≤ 5 ∧ 5 ≤ 10 ∨ 14 ≤ 5 ∧ 5 ≤ 16 ∨ 5 = 25) ∨ 80 ≤ 77 ∧ 77 ≤ 84 ∧ 8 ≤ 5 ∨ 85 ≤ 77 ∧ 77 ≤ 87 ∧ 12 ≤ 5 by decide)
                    refine to_c (pc := 13) rw_152_13 (x := (0 : Int32)) rfl rfl (s_r1 (pc := 14) rw_152_14 (A := 0) rfl (by decide) (b_ieq_t (pc := 35) rw_162_35 (A := 0) rfl (by decide) (to_c (pc := 42) rw_162_42 (x := (0 : Int32)) rfl rfl (s_r1 (pc := 43) rw_162_43 (A := 0) rfl (by decide) (b_ine_f (pc := 138) rw_170_138 (A := 0) rfl (by decide) (to_c (pc := 141) rw_170_141 (x := (0 : Int32)) rfl rfl (s_r1 (pc := 142) rw_170_142 (A := 0) rfl (by decide) ?_)))))))
                    have k_383 : (0 : Int32).toInt = 0 := rfl
                    have c_384 : M380.2.1 77 7 = (M151.2.1 77 7) := (W_n W379 (by decide) (W_n W373 (by decide) rfl))
                    have t_385 : (M380.2.1 77 7).toInt = (M151.2.1 77 7).toInt := congrArg Int32.toInt c_384
                    have c_386 : M380.2.1 77 6 = (M.2.1 77 6) := (W_n W379 (by decide) (W_n W373 (by decide) c_154))
                    have t_387 : (M380.2.1 77 6).toInt = (M.2.1 77 6).toInt := congrArg Int32.toInt c_386
                    have c_388 : M380.2.1 77 8 = (M151.2.1 77 8) := (W_n W379 (by decide) (W_n W373 (by decide) rfl))
                    have t_389 : (M380.2.1 77 8).toInt = (M151.2.1 77 8).toInt := congrArg Int32.toInt c_388
                    have j_390 := (FA_f (fun a i z => W_n W379 (tg_231 a i z) rfl) (FA_f (fun a i z => W_n W373 (tg_232 a i z) rfl) (FA_f (tg_220 F146) (FA_f (tg_220 F92) (FA_f (tg_221 F77) (FA_f (tg_220 F65) q2))))))
                    have j_391 := (WR_f (fun a i z => W_n W379 (by /-r77,5-/ omega) rfl) (WR_f (fun a i z => W_n W373 (by /-r77,4-/ omega) rfl) (WR_f (tg_222 F146) (WR_f (tg_222 F92) (WR_f (tg_223 F77) (WR_f (tg_222 F65) q3))))))
                    exact h (0 : Int32) M380 hG381 F382 (by decide) (by decide) (by omega) (by omega) (by omega) j_390 j_391
              · refine to_an (pc := 8) rw_162_8 rfl (to_c (pc := 9) rw_162_9 (x := (1 : Int32)) rfl rfl (s_v (pc := 10) rw_162_10 (dp1 hd (by decide)) (ls0 := [.ref 77, .int (1 : Int32)]) rfl (Nat.le_of_ble_eq_true rfl) (Nat.le_of_ble_eq_true rfl) rfl (to_rc rfl rfl rfl (g_o hG147 rfl)) rfl (to_an (pc := 0) rw_152_0 rfl (to_in (pc := 1) rw_152_1 rfl (s_pI (pc := 2) rw_152_2 hG147 rfl (fun M393 W392 => ?_))))))
                have hG394 := g_wf hG147 W392 rfl rfl (by decide)
                have F395 := FR.w F152 W392 (show 77 = 77 ∧ (4 = 4 ∨ 4 = 5 ∨ 7 ≤ 4 ∧ 4 ≤ 10 ∨ 14 ≤ 4 ∧ 4 ≤ 16 ∨ 4 = 25) ∨ 80 ≤ 77 ∧ 77 ≤ 84 ∧ 8 ≤ 4 ∨ 85 ≤ 77 ∧ 77 ≤ 87 ∧ 12 ≤ 4 by decide)
                refine to_an (pc := 5) rw_152_5 rfl (to_an (pc := 6) rw_152_6 rfl ?_)
                have c_396 : M393.2.1 77 10 = (M151.2.1 77 10) := (W_n W392 (by decide) rfl)
                have b_397 := g_b hG147 (a := 77) (i := 10) (lo := 0) (hi := 500) rfl rfl
                refine tt_gI (pc := 7) rw_152_7 (g_o hG394 rfl) (v := (M151.2.1 77 10)) c_396 (s_pI (pc := 10) rw_152_10 hG394 rfl (fun M399 W398 => ?_))
                have hG400 := g_wf hG394 W398 rfl rfl (by decide)
                have F401 := FR.w F395 W398 (show 77 = 77 ∧ (5 = 4 ∨ 5 = 5 ∨ 7 ≤ 5 ∧ 5 ≤ 10 ∨ 14 ≤ 5 ∧ 5 ≤ 16 ∨ 5 = 25) ∨ 80 ≤ 77 ∧ 77 ≤ 84 ∧ 8 ≤ 5 ∨ 85 ≤ 77 ∧ 77 ≤ 87 ∧ 12 ≤ 5 by decide)
                refine to_c (pc := 13) rw_152_13 (x := (0 : Int32)) rfl rfl (s_r1 (pc := 14) rw_152_14 (A := 0) rfl (by decide) (s_r1 (pc := 13) rw_162_13 (A := 0) rfl (by decide) (b_ine_f (pc := 138) rw_170_138 (A := 0) rfl (by decide) (to_c (pc := 141) rw_170_141 (x := (0 : Int32)) rfl rfl (s_r1 (pc := 142) rw_170_142 (A := 0) rfl (by decide) ?_)))))
                have k_402 : (0 : Int32).toInt = 0 := rfl
                have c_403 : M399.2.1 77 7 = (M151.2.1 77 7) := (W_n W398 (by decide) (W_n W392 (by decide) rfl))
                have t_404 : (M399.2.1 77 7).toInt = (M151.2.1 77 7).toInt := congrArg Int32.toInt c_403
                have c_405 : M399.2.1 77 6 = (M.2.1 77 6) := (W_n W398 (by decide) (W_n W392 (by decide) c_154))
                have t_406 : (M399.2.1 77 6).toInt = (M.2.1 77 6).toInt := congrArg Int32.toInt c_405
                have c_407 : M399.2.1 77 8 = (M151.2.1 77 8) := (W_n W398 (by decide) (W_n W392 (by decide) rfl))
                have t_408 : (M399.2.1 77 8).toInt = (M151.2.1 77 8).toInt := congrArg Int32.toInt c_407
                have j_409 := (FA_f (fun a i z => W_n W398 (tg_231 a i z) rfl) (FA_f (fun a i z => W_n W392 (tg_232 a i z) rfl) (FA_f (tg_220 F146) (FA_f (tg_220 F92) (FA_f (tg_221 F77) (FA_f (tg_220 F65) q2))))))
                have j_410 := (WR_f (fun a i z => W_n W398 (by /-r77,5-/ omega) rfl) (WR_f (fun a i z => W_n W392 (by /-r77,4-/ omega) rfl) (WR_f (tg_222 F146) (WR_f (tg_222 F92) (WR_f (tg_223 F77) (WR_f (tg_222 F65) q3))))))
                exact h (0 : Int32) M399 hG400 F401 (by decide) (by decide) (by omega) (by omega) (by omega) j_409 j_410
            · refine to_in (pc := 91) rw_170_91 rfl (to_c (pc := 92) rw_170_92 (x := (3 : Int32)) rfl rfl (b_cne (pc := 93) rw_170_93 (A := v144.toInt) (B := 3) rfl rfl (fun h411 => ?_) (fun h411 => ?_)))
              · refine to_c (pc := 100) rw_170_100 (x := (0 : Int32)) rfl rfl (to_is (pc := 101) rw_170_101 (ls2 := [.ref 77, .int v85, .int (M70.2.1 77 9), .int v144, .int (0 : Int32), .null, .null, .null, .null]) rfl rfl (to_in (pc := 103) rw_170_103 rfl (to_c (pc := 104) rw_170_104 (x := (1 : Int32)) rfl rfl (b_cne (pc := 105) rw_170_105 (A := v144.toInt) (B := 1) rfl rfl (fun h412 => ?_) (fun h412 => ?_)))))
                · refine to_in (pc := 112) rw_170_112 rfl (to_c (pc := 113) rw_170_113 (x := (2 : Int32)) rfl rfl (b_cne_f (pc := 114) rw_170_114 (A := v144.toInt) (B := 2) rfl rfl (by omega) (to_c (pc := 117) rw_170_117 (x := (4 : Int32)) rfl rfl (to_go (pc := 118) rw_170_118 (to_is (pc := 122) rw_170_122 (ls2 := [.ref 77, .int v85, .int (M70.2.1 77 9), .int v144, .int (0 : Int32), .int (4 : Int32), .null, .null, .null]) rfl rfl (to_an (pc := 124) rw_170_124 rfl (to_c (pc := 125) rw_170_125 (x := (0 : Int32)) rfl rfl (to_an (pc := 126) rw_170_126 rfl ?_))))))))
                  have c_413 : M151.2.1 77 14 = (M.2.1 77 14) := (F_n F146 (show ¬ (77 = 77 ∧ 7 ≤ 14 ∧ 14 ≤ 10) by decide) (F_n F92 (show ¬ (77 = 77 ∧ 7 ≤ 14 ∧ 14 ≤ 10) by decide) (F_n F77 (show ¬ (77 = 77 ∧ (14 = 4 ∨ 14 = 5)) by decide) (F_n F65 (show ¬ (77 = 77 ∧ 7 ≤ 14 ∧ 14 ≤ 10) by decide) rfl))))
                  have b_414 := g_b hG (a := 77) (i := 14) (lo := 10) (hi := 60) rfl rfl
                  refine tt_gI (pc := 127) rw_170_127 (g_o hG147 rfl) (v := (M.2.1 77 14)) c_413 (to_c (pc := 130) rw_170_130 (x := (1 : Int32)) rfl rfl (s_sub (pc := 131) rw_170_131 (A := (M.2.1 77 14).toInt) (B := 1) rfl rfl (by omega) (fun v415 e416 => to_i (pc := 132) rw_170_132 rfl (s_sub (pc := 134) rw_170_134 (A := v415.toInt) (B := 4) rfl rfl (by omega) (fun v417 e418 => s_v (pc := 135) rw_170_135 (dp0 hd (by decide)) (ls0 := [.ref 77, .int (0 : Int32), .int v417]) rfl (Nat.le_of_ble_eq_true rfl) (Nat.le_of_ble_eq_true rfl) rfl (to_rc rfl rfl rfl (g_o hG147 rfl)) rfl (to_an (pc := 0) rw_162_0 rfl (tt_gI (pc := 1) rw_162_1 (g_o hG147 rfl) (v := (M151.2.1 77 8)) rfl (to_c (pc := 4) rw_162_4 (x := (3 : Int32)) rfl rfl (b_ceq (pc := 5) rw_162_5 (A := (M151.2.1 77 8).toInt) (B := 3) rfl rfl (fun h419 => ?_) (fun h419 => ?_))))))))))
                  · refine to_an (pc := 14) rw_162_14 rfl (tt_gI (pc := 15) rw_162_15 (g_o hG147 rfl) (v := (M151.2.1 77 9)) rfl (to_in (pc := 18) rw_162_18 rfl (b_clt (pc := 19) rw_162_19 (A := (M151.2.1 77 9).toInt) (B := 0) rfl rfl (fun h420 => ?_) (fun h420 => ?_))))
                    · refine to_an (pc := 30) rw_162_30 rfl (to_c (pc := 31) rw_162_31 (x := (2 : Int32)) rfl rfl (s_v (pc := 32) rw_162_32 (dp1 hd (by decide)) (ls0 := [.ref 77, .int (2 : Int32)]) rfl (Nat.le_of_ble_eq_true rfl) (Nat.le_of_ble_eq_true rfl) rfl (to_rc rfl rfl rfl (g_o hG147 rfl)) rfl (to_an (pc := 0) rw_152_0 rfl (to_in (pc := 1) rw_152_1 rfl (s_pI (pc := 2) rw_152_2 hG147 rfl (fun M422 W421 => ?_))))))
                      have hG423 := g_wf hG147 W421 rfl rfl (by decide)
                      have F424 := FR.w F152 W421 (show 77 = 77 ∧ (4 = 4 ∨ 4 = 5 ∨ 7 ≤ 4 ∧ 4 ≤ 10 ∨ 14 ≤ 4 ∧ 4 ≤ 16 ∨ 4 = 25) ∨ 80 ≤ 77 ∧ 77 ≤ 84 ∧ 8 ≤ 4 ∨ 85 ≤ 77 ∧ 77 ≤ 87 ∧ 12 ≤ 4 by decide)
                      refine to_an (pc := 5) rw_152_5 rfl (to_an (pc := 6) rw_152_6 rfl ?_)
                      have c_425 : M422.2.1 77 10 = (M151.2.1 77 10) := (W_n W421 (by decide) rfl)
                      have b_426 := g_b hG147 (a := 77) (i := 10) (lo := 0) (hi := 500) rfl rfl
                      refine tt_gI (pc := 7) rw_152_7 (g_o hG423 rfl) (v := (M151.2.1 77 10)) c_425 (s_pI (pc := 10) rw_152_10 hG423 rfl (fun M428 W427 => ?_))
                      have hG429 := g_wf hG423 W427 rfl rfl (by decide)
                      have F430 := FR.w F424 W427 (show 77 = 77 ∧ (5 = 4 ∨ 5 = 5 ∨ 7 ≤ 5 ∧ 5 ≤ 10 ∨ 14 ≤ 5 ∧ 5 ≤ 16 ∨ 5 = 25) ∨ 80 ≤ 77 ∧ 77 ≤ 84 ∧ 8 ≤ 5 ∨ 85 ≤ 77 ∧ 77 ≤ 87 ∧ 12 ≤ 5 by decide)
                      refine to_c (pc := 13) rw_152_13 (x := (0 : Int32)) rfl rfl (s_r1 (pc := 14) rw_152_14 (A := 0) rfl (by decide) (b_ieq_t (pc := 35) rw_162_35 (A := 0) rfl (by decide) (to_c (pc := 42) rw_162_42 (x := (0 : Int32)) rfl rfl (s_r1 (pc := 43) rw_162_43 (A := 0) rfl (by decide) (b_ine_f (pc := 138) rw_170_138 (A := 0) rfl (by decide) (to_c (pc := 141) rw_170_141 (x := (0 : Int32)) rfl rfl (s_r1 (pc := 142) rw_170_142 (A := 0) rfl (by decide) ?_)))))))
                      have k_431 : (0 : Int32).toInt = 0 := rfl
                      have c_432 : M428.2.1 77 7 = (M151.2.1 77 7) := (W_n W427 (by decide) (W_n W421 (by decide) rfl))
                      have t_433 : (M428.2.1 77 7).toInt = (M151.2.1 77 7).toInt := congrArg Int32.toInt c_432
                      have c_434 : M428.2.1 77 6 = (M.2.1 77 6) := (W_n W427 (by decide) (W_n W421 (by decide) c_154))
                      have t_435 : (M428.2.1 77 6).toInt = (M.2.1 77 6).toInt := congrArg Int32.toInt c_434
                      have c_436 : M428.2.1 77 8 = (M151.2.1 77 8) := (W_n W427 (by decide) (W_n W421 (by decide) rfl))
                      have t_437 : (M428.2.1 77 8).toInt = (M151.2.1 77 8).toInt := congrArg Int32.toInt c_436
                      have j_438 := (FA_f (fun a i z => W_n W427 (tg_231 a i z) rfl) (FA_f (fun a i z => W_n W421 (tg_232 a i z) rfl) (FA_f (tg_220 F146) (FA_f (tg_220 F92) (FA_f (tg_221 F77) (FA_f (tg_220 F65) q2))))))
                      have j_439 := (WR_f (fun a i z => W_n W427 (by /-r77,5-/ omega) rfl) (WR_f (fun a i z => W_n W421 (by /-r77,4-/ omega) rfl) (WR_f (tg_222 F146) (WR_f (tg_222 F92) (WR_f (tg_223 F77) (WR_f (tg_222 F65) q3))))))
                      exact h (0 : Int32) M428 hG429 F430 (by decide) (by decide) (by omega) (by omega) (by omega) j_438 j_439
                    · refine to_an (pc := 22) rw_162_22 rfl (tt_gI (pc := 23) rw_162_23 (g_o hG147 rfl) (v := (M151.2.1 77 9)) rfl (to_in (pc := 26) rw_162_26 rfl (b_cle (pc := 27) rw_162_27 (A := (M151.2.1 77 9).toInt) (B := v417.toInt) rfl rfl (fun h440 => ?_) (fun h440 => ?_))))
                      · refine to_c (pc := 38) rw_162_38 (x := (1 : Int32)) rfl rfl (to_go (pc := 39) rw_162_39 (s_r1 (pc := 43) rw_162_43 (A := 1) rfl (by decide) (b_ine_t (pc := 138) rw_170_138 (A := 1) rfl (by decide) (to_an (pc := 143) rw_170_143 rfl (tt_gI (pc := 144) rw_170_144 (g_o hG147 rfl) (v := (M151.2.1 77 9)) rfl (to_is (pc := 147) rw_170_147 (ls2 := [.ref 77, .int v85, .int (M70.2.1 77 9), .int v144, .int (0 : Int32), .int (4 : Int32), .int (M151.2.1 77 9), .null, .null]) rfl rfl (to_an (pc := 149) rw_170_149 rfl (s_gJ (pc := 150) rw_170_150 hG147 rfl (fun l441 => to_i (pc := 153) rw_170_153 rfl (to_i (pc := 155) rw_170_155 rfl (to_i (pc := 157) rw_170_157 rfl ?_)))))))))))
                        refine s_add (pc := 159) rw_170_159 (A := (M151.2.1 77 9).toInt) (B := 4) rfl rfl (by omega) (fun v442 e443 => s_s (pc := 160) rw_170_160 (dp0 hd (by decide)) (ls0 := [.int (M151.2.1 77 9), .int v442, .null, .null, .null]) rfl (Nat.le_of_ble_eq_true rfl) (Nat.le_of_ble_eq_true rfl) rfl (to_rcs rfl rfl) rfl (C_168 hX (dp1 hd (by decide)) hG147 (by omega) (by omega) (by omega) (a := (M151.2.1 77 9)) (b := v442) (fun r444 M447 hG446 F445 => ?_)))
                        have F448 := FR.c F152 F445 tg_227
                        refine s_anyL (pc := 163) rw_170_163 (fun _ _ => rfl) (fun l449 => s_cl (pc := 164) rw_170_164 rfl (fun l450 => s_lcmp (pc := 165) rw_170_165 (fun v451 => b_ieq (pc := 166) rw_170_166 (A := v451.toInt) rfl (fun h452 => ?_) (fun h452 => ?_))))
                        · refine to_an (pc := 175) rw_170_175 rfl (s_v (pc := 176) rw_170_176 (dp0 hd (by decide)) (ls0 := [.ref 77]) rfl (Nat.le_of_ble_eq_true rfl) (Nat.le_of_ble_eq_true rfl) rfl (to_rc rfl rfl rfl (g_o hG446 rfl)) rfl ?_)
                          have c_453 : M447.2.1 77 7 = (M151.2.1 77 7) := (F_n F445 (show ¬ (77 < 0) by decide) rfl)
                          have t_454 : (M447.2.1 77 7).toInt = (M151.2.1 77 7).toInt := congrArg Int32.toInt c_453
                          have c_455 : M447.2.1 77 6 = (M.2.1 77 6) := (F_n F445 (show ¬ (77 < 0) by decide) c_154)
                          have t_456 : (M447.2.1 77 6).toInt = (M.2.1 77 6).toInt := congrArg Int32.toInt c_455
                          refine C_156 hX (dp1 hd (by decide)) hG446 (by omega)  (fun M462 hG458 F457 p_459 p_460 p_461 => ?_)
                          have F463 := FR.c F448 F457 tg_79
                          have b_464 := g_b hG458 (a := 77) (i := 7) (lo := 0) (hi := 500) rfl rfl
                          have c_465 : M462.2.1 77 6 = (M.2.1 77 6) := (F_n F457 (show ¬ (77 = 77 ∧ 7 ≤ 6 ∧ 6 ≤ 10) by decide) c_455)
                          have t_466 : (M462.2.1 77 6).toInt = (M.2.1 77 6).toInt := congrArg Int32.toInt c_465
                          have b_467 := g_b hG458 (a := 77) (i := 8) (lo := 0) (hi := 5) rfl rfl
                          refine to_i (pc := 179) rw_170_179 rfl (to_i (pc := 181) rw_170_181 rfl (s_add (pc := 183) rw_170_183 (A := (M151.2.1 77 9).toInt) (B := 4) rfl rfl (by omega) (fun v468 e469 => to_is (pc := 184) rw_170_184 (ls2 := [.ref 77, .int v85, .int (M70.2.1 77 9), .int v144, .int (0 : Int32), .int (4 : Int32), .int (M151.2.1 77 9), .int v468, .null]) rfl rfl (to_c (pc := 186) rw_170_186 (x := (10 : Int32)) rfl rfl (to_is (pc := 188) rw_170_188 (ls2 := [.ref 77, .int v85, .int (M70.2.1 77 9), .int v144, .int (0 : Int32), .int (4 : Int32), .int (M151.2.1 77 9), .int v468, .int (10 : Int32)]) rfl rfl (to_i (pc := 190) rw_170_190 rfl (b_ieq_t (pc := 192) rw_170_192 (A := 0) rfl (by decide) ?_)))))))
                          have k_470 : (10 : Int32).toInt = 10 := rfl
                          have c_471 : M462.2.1 77 15 = (M.2.1 77 15) := (F_n F457 (show ¬ (77 = 77 ∧ 7 ≤ 15 ∧ 15 ≤ 10) by decide) (F_n F445 (show ¬ (77 < 0) by decide) (F_n F146 (show ¬ (77 = 77 ∧ 7 ≤ 15 ∧ 15 ≤ 10) by decide) (F_n F92 (show ¬ (77 = 77 ∧ 7 ≤ 15 ∧ 15 ≤ 10) by decide) c_84))))
                          have t_472 : (M462.2.1 77 15).toInt = (M.2.1 77 15).toInt := congrArg Int32.toInt c_471
                          have j_473 := (FA_f (tg_220 F457) (FA_f (tg_218 F445) (FA_f (tg_220 F146) (FA_f (tg_220 F92) (FA_f (tg_221 F77) (FA_f (tg_220 F65) q2))))))
                          have j_474 := (WR_f (tg_222 F457) (WR_f (tg_219 F445) (WR_f (tg_222 F146) (WR_f (tg_222 F92) (WR_f (tg_223 F77) (WR_f (tg_222 F65) q3))))))
                          exact (T_170_0 hX hd q1 q2 q3 h (((0 : Int)).toNat + 1)) M462 v85 (M70.2.1 77 9) v144 (.int (0 : Int32)) (.int (4 : Int32)) (M151.2.1 77 9) v468 (10 : Int32) hG458 F463 (by omega) (by omega) (by omega) (by omega) (by omega) (by omega) (by omega) (by omega) (by omega) (by omega) (by omega) (by omega) (by omega) (by omega) (by omega) j_473 j_474 (by omega)
                        · refine to_an (pc := 169) rw_170_169 rfl (to_c (pc := 170) rw_170_170 (x := (3 : Int32)) rfl rfl (s_v (pc := 171) rw_170_171 (dp0 hd (by decide)) (ls0 := [.ref 77, .int (3 : Int32)]) rfl (Nat.le_of_ble_eq_true rfl) (Nat.le_of_ble_eq_true rfl) rfl (to_rc rfl rfl rfl (g_o hG446 rfl)) rfl (to_an (pc := 0) rw_152_0 rfl (to_in (pc := 1) rw_152_1 rfl (s_pI (pc := 2) rw_152_2 hG446 rfl (fun M476 W475 => ?_))))))
                          have hG477 := g_wf hG446 W475 rfl rfl (by decide)
                          have F478 := FR.w F448 W475 (show 77 = 77 ∧ (4 = 4 ∨ 4 = 5 ∨ 7 ≤ 4 ∧ 4 ≤ 10 ∨ 14 ≤ 4 ∧ 4 ≤ 16 ∨ 4 = 25) ∨ 80 ≤ 77 ∧ 77 ≤ 84 ∧ 8 ≤ 4 ∨ 85 ≤ 77 ∧ 77 ≤ 87 ∧ 12 ≤ 4 by decide)
                          refine to_an (pc := 5) rw_152_5 rfl (to_an (pc := 6) rw_152_6 rfl ?_)
                          have c_479 : M476.2.1 77 10 = (M151.2.1 77 10) := (W_n W475 (by decide) (F_n F445 (show ¬ (77 < 0) by decide) rfl))
                          have b_480 := g_b hG147 (a := 77) (i := 10) (lo := 0) (hi := 500) rfl rfl
                          refine tt_gI (pc := 7) rw_152_7 (g_o hG477 rfl) (v := (M151.2.1 77 10)) c_479 (s_pI (pc := 10) rw_152_10 hG477 rfl (fun M482 W481 => ?_))
                          have hG483 := g_wf hG477 W481 rfl rfl (by decide)
                          have F484 := FR.w F478 W481 (show 77 = 77 ∧ (5 = 4 ∨ 5 = 5 ∨ 7 ≤ 5 ∧ 5 ≤ 10 ∨ 14 ≤ 5 ∧ 5 ≤ 16 ∨ 5 = 25) ∨ 80 ≤ 77 ∧ 77 ≤ 84 ∧ 8 ≤ 5 ∨ 85 ≤ 77 ∧ 77 ≤ 87 ∧ 12 ≤ 5 by decide)
                          refine to_c (pc := 13) rw_152_13 (x := (0 : Int32)) rfl rfl (s_r1 (pc := 14) rw_152_14 (A := 0) rfl (by decide) (s_r1 (pc := 174) rw_170_174 (A := 0) rfl (by decide) ?_))
                          have k_485 : (0 : Int32).toInt = 0 := rfl
                          have c_486 : M482.2.1 77 7 = (M151.2.1 77 7) := (W_n W481 (by decide) (W_n W475 (by decide) (F_n F445 (show ¬ (77 < 0) by decide) rfl)))
                          have t_487 : (M482.2.1 77 7).toInt = (M151.2.1 77 7).toInt := congrArg Int32.toInt c_486
                          have c_488 : M482.2.1 77 6 = (M.2.1 77 6) := (W_n W481 (by decide) (W_n W475 (by decide) (F_n F445 (show ¬ (77 < 0) by decide) c_154)))
                          have t_489 : (M482.2.1 77 6).toInt = (M.2.1 77 6).toInt := congrArg Int32.toInt c_488
                          have c_490 : M482.2.1 77 8 = (M151.2.1 77 8) := (W_n W481 (by decide) (W_n W475 (by decide) (F_n F445 (show ¬ (77 < 0) by decide) rfl)))
                          have t_491 : (M482.2.1 77 8).toInt = (M151.2.1 77 8).toInt := congrArg Int32.toInt c_490
                          have j_492 := (FA_f (fun a i z => W_n W481 (tg_231 a i z) rfl) (FA_f (fun a i z => W_n W475 (tg_232 a i z) rfl) (FA_f (tg_218 F445) (FA_f (tg_220 F146) (FA_f (tg_220 F92) (FA_f (tg_221 F77) (FA_f (tg_220 F65) q2)))))))
                          have j_493 := (WR_f (fun a i z => W_n W481 (by /-r77,5-/ omega) rfl) (WR_f (fun a i z => W_n W475 (by /-r77,4-/ omega) rfl) (WR_f (tg_219 F445) (WR_f (tg_222 F146) (WR_f (tg_222 F92) (WR_f (tg_223 F77) (WR_f (tg_222 F65) q3)))))))
                          exact h (0 : Int32) M482 hG483 F484 (by decide) (by decide) (by omega) (by omega) (by omega) j_492 j_493
                      · refine to_an (pc := 30) rw_162_30 rfl (to_c (pc := 31) rw_162_31 (x := (2 : Int32)) rfl rfl (s_v (pc := 32) rw_162_32 (dp1 hd (by decide)) (ls0 := [.ref 77, .int (2 : Int32)]) rfl (Nat.le_of_ble_eq_true rfl) (Nat.le_of_ble_eq_true rfl) rfl (to_rc rfl rfl rfl (g_o hG147 rfl)) rfl (to_an (pc := 0) rw_152_0 rfl (to_in (pc := 1) rw_152_1 rfl (s_pI (pc := 2) rw_152_2 hG147 rfl (fun M495 W494 => ?_))))))
                        have hG496 := g_wf hG147 W494 rfl rfl (by decide)
                        have F497 := FR.w F152 W494 (show 77 = 77 ∧ (4 = 4 ∨ 4 = 5 ∨ 7 ≤ 4 ∧ 4 ≤ 10 ∨ 14 ≤ 4 ∧ 4 ≤ 16 ∨ 4 = 25) ∨ 80 ≤ 77 ∧ 77 ≤ 84 ∧ 8 ≤ 4 ∨ 85 ≤ 77 ∧ 77 ≤ 87 ∧ 12 ≤ 4 by decide)
                        refine to_an (pc := 5) rw_152_5 rfl (to_an (pc := 6) rw_152_6 rfl ?_)
                        have c_498 : M495.2.1 77 10 = (M151.2.1 77 10) := (W_n W494 (by decide) rfl)
                        have b_499 := g_b hG147 (a := 77) (i := 10) (lo := 0) (hi := 500) rfl rfl
                        refine tt_gI (pc := 7) rw_152_7 (g_o hG496 rfl) (v := (M151.2.1 77 10)) c_498 (s_pI (pc := 10) rw_152_10 hG496 rfl (fun M501 W500 => ?_))
                        have hG502 := g_wf hG496 W500 rfl rfl (by decide)
                        have F503 := FR.w F497 W500 (show 77 = 77 ∧ (5 = 4 ∨ 5 = 5 ∨ 7 ≤ 5 ∧ 5 ≤ 10 ∨ 14 ≤ 5 ∧ 5 ≤ 16 ∨ 5 = 25) ∨ 80 ≤ 77 ∧ 77 ≤ 84 ∧ 8 ≤ 5 ∨ 85 ≤ 77 ∧ 77 ≤ 87 ∧ 12 ≤ 5 by decide)
                        refine to_c (pc := 13) rw_152_13 (x := (0 : Int32)) rfl rfl (s_r1 (pc := 14) rw_152_14 (A := 0) rfl (by decide) (b_ieq_t (pc := 35) rw_162_35 (A := 0) rfl (by decide) (to_c (pc := 42) rw_162_42 (x := (0 : Int32)) rfl rfl (s_r1 (pc := 43) rw_162_43 (A := 0) rfl (by decide) (b_ine_f (pc := 138) rw_170_138 (A := 0) rfl (by decide) (to_c (pc := 141) rw_170_141 (x := (0 : Int32)) rfl rfl (s_r1 (pc := 142) rw_170_142 (A := 0) rfl (by decide) ?_)))))))
                        have k_504 : (0 : Int32).toInt = 0 := rfl
                        have c_505 : M501.2.1 77 7 = (M151.2.1 77 7) := (W_n W500 (by decide) (W_n W494 (by decide) rfl))
                        have t_506 : (M501.2.1 77 7).toInt = (M151.2.1 77 7).toInt := congrArg Int32.toInt c_505
                        have c_507 : M501.2.1 77 6 = (M.2.1 77 6) := (W_n W500 (by decide) (W_n W494 (by decide) c_154))
                        have t_508 : (M501.2.1 77 6).toInt = (M.2.1 77 6).toInt := congrArg Int32.toInt c_507
                        have c_509 : M501.2.1 77 8 = (M151.2.1 77 8) := (W_n W500 (by decide) (W_n W494 (by decide) rfl))
                        have t_510 : (M501.2.1 77 8).toInt = (M151.2.1 77 8).toInt := congrArg Int32.toInt c_509
                        have j_511 := (FA_f (fun a i z => W_n W500 (tg_231 a i z) rfl) (FA_f (fun a i z => W_n W494 (tg_232 a i z) rfl) (FA_f (tg_220 F146) (FA_f (tg_220 F92) (FA_f (tg_221 F77) (FA_f (tg_220 F65) q2))))))
                        have j_512 := (WR_f (fun a i z => W_n W500 (by /-r77,5-/ omega) rfl) (WR_f (fun a i z => W_n W494 (by /-r77,4-/ omega) rfl) (WR_f (tg_222 F146) (WR_f (tg_222 F92) (WR_f (tg_223 F77) (WR_f (tg_222 F65) q3))))))
                        exact h (0 : Int32) M501 hG502 F503 (by decide) (by decide) (by omega) (by omega) (by omega) j_511 j_512
                  · refine to_an (pc := 8) rw_162_8 rfl (to_c (pc := 9) rw_162_9 (x := (1 : Int32)) rfl rfl (s_v (pc := 10) rw_162_10 (dp1 hd (by decide)) (ls0 := [.ref 77, .int (1 : Int32)]) rfl (Nat.le_of_ble_eq_true rfl) (Nat.le_of_ble_eq_true rfl) rfl (to_rc rfl rfl rfl (g_o hG147 rfl)) rfl (to_an (pc := 0) rw_152_0 rfl (to_in (pc := 1) rw_152_1 rfl (s_pI (pc := 2) rw_152_2 hG147 rfl (fun M514 W513 => ?_))))))
                    have hG515 := g_wf hG147 W513 rfl rfl (by decide)
                    have F516 := FR.w F152 W513 (show 77 = 77 ∧ (4 = 4 ∨ 4 = 5 ∨ 7 ≤ 4 ∧ 4 ≤ 10 ∨ 14 ≤ 4 ∧ 4 ≤ 16 ∨ 4 = 25) ∨ 80 ≤ 77 ∧ 77 ≤ 84 ∧ 8 ≤ 4 ∨ 85 ≤ 77 ∧ 77 ≤ 87 ∧ 12 ≤ 4 by decide)
                    refine to_an (pc := 5) rw_152_5 rfl (to_an (pc := 6) rw_152_6 rfl ?_)
                    have c_517 : M514.2.1 77 10 = (M151.2.1 77 10) := (W_n W513 (by decide) rfl)
                    have b_518 := g_b hG147 (a := 77) (i := 10) (lo := 0) (hi := 500) rfl rfl
                    refine tt_gI (pc := 7) rw_152_7 (g_o hG515 rfl) (v := (M151.2.1 77 10)) c_517 (s_pI (pc := 10) rw_152_10 hG515 rfl (fun M520 W519 => ?_))
                    have hG521 := g_wf hG515 W519 rfl rfl (by decide)
                    have F522 := FR.w F516 W519 (show 77 = 77 ∧ (5 = 4 ∨ 5 = 5 ∨ 7 ≤ 5 ∧ 5 ≤ 10 ∨ 14 ≤ 5 ∧ 5 ≤ 16 ∨ 5 = 25) ∨ 80 ≤ 77 ∧ 77 ≤ 84 ∧ 8 ≤ 5 ∨ 85 ≤ 77 ∧ 77 ≤ 87 ∧ 12 ≤ 5 by decide)
                    refine to_c (pc := 13) rw_152_13 (x := (0 : Int32)) rfl rfl (s_r1 (pc := 14) rw_152_14 (A := 0) rfl (by decide) (s_r1 (pc := 13) rw_162_13 (A := 0) rfl (by decide) (b_ine_f (pc := 138) rw_170_138 (A := 0) rfl (by decide) (to_c (pc := 141) rw_170_141 (x := (0 : Int32)) rfl rfl (s_r1 (pc := 142) rw_170_142 (A := 0) rfl (by decide) ?_)))))
                    have k_523 : (0 : Int32).toInt = 0 := rfl
                    have c_524 : M520.2.1 77 7 = (M151.2.1 77 7) := (W_n W519 (by decide) (W_n W513 (by decide) rfl))
                    have t_525 : (M520.2.1 77 7).toInt = (M151.2.1 77 7).toInt := congrArg Int32.toInt c_524
                    have c_526 : M520.2.1 77 6 = (M.2.1 77 6) := (W_n W519 (by decide) (W_n W513 (by decide) c_154))
                    have t_527 : (M520.2.1 77 6).toInt = (M.2.1 77 6).toInt := congrArg Int32.toInt c_526
                    have c_528 : M520.2.1 77 8 = (M151.2.1 77 8) := (W_n W519 (by decide) (W_n W513 (by decide) rfl))
                    have t_529 : (M520.2.1 77 8).toInt = (M151.2.1 77 8).toInt := congrArg Int32.toInt c_528
                    have j_530 := (FA_f (fun a i z => W_n W519 (tg_231 a i z) rfl) (FA_f (fun a i z => W_n W513 (tg_232 a i z) rfl) (FA_f (tg_220 F146) (FA_f (tg_220 F92) (FA_f (tg_221 F77) (FA_f (tg_220 F65) q2))))))
                    have j_531 := (WR_f (fun a i z => W_n W519 (by /-r77,5-/ omega) rfl) (WR_f (fun a i z => W_n W513 (by /-r77,4-/ omega) rfl) (WR_f (tg_222 F146) (WR_f (tg_222 F92) (WR_f (tg_223 F77) (WR_f (tg_222 F65) q3))))))
                    exact h (0 : Int32) M520 hG521 F522 (by decide) (by decide) (by omega) (by omega) (by omega) j_530 j_531
                · refine to_c (pc := 108) rw_170_108 (x := (3 : Int32)) rfl rfl (to_go (pc := 109) rw_170_109 (to_is (pc := 122) rw_170_122 (ls2 := [.ref 77, .int v85, .int (M70.2.1 77 9), .int v144, .int (0 : Int32), .int (3 : Int32), .null, .null, .null]) rfl rfl (to_an (pc := 124) rw_170_124 rfl (to_c (pc := 125) rw_170_125 (x := (0 : Int32)) rfl rfl (to_an (pc := 126) rw_170_126 rfl ?_)))))
                  have c_532 : M151.2.1 77 14 = (M.2.1 77 14) := (F_n F146 (show ¬ (77 = 77 ∧ 7 ≤ 14 ∧ 14 ≤ 10) by decide) (F_n F92 (show ¬ (77 = 77 ∧ 7 ≤ 14 ∧ 14 ≤ 10) by decide) (F_n F77 (show ¬ (77 = 77 ∧ (14 = 4 ∨ 14 = 5)) by decide) (F_n F65 (show ¬ (77 = 77 ∧ 7 ≤ 14 ∧ 14 ≤ 10) by decide) rfl))))
                  have b_533 := g_b hG (a := 77) (i := 14) (lo := 10) (hi := 60) rfl rfl
                  refine tt_gI (pc := 127) rw_170_127 (g_o hG147 rfl) (v := (M.2.1 77 14)) c_532 (to_c (pc := 130) rw_170_130 (x := (1 : Int32)) rfl rfl (s_sub (pc := 131) rw_170_131 (A := (M.2.1 77 14).toInt) (B := 1) rfl rfl (by omega) (fun v534 e535 => to_i (pc := 132) rw_170_132 rfl (s_sub (pc := 134) rw_170_134 (A := v534.toInt) (B := 3) rfl rfl (by omega) (fun v536 e537 => s_v (pc := 135) rw_170_135 (dp0 hd (by decide)) (ls0 := [.ref 77, .int (0 : Int32), .int v536]) rfl (Nat.le_of_ble_eq_true rfl) (Nat.le_of_ble_eq_true rfl) rfl (to_rc rfl rfl rfl (g_o hG147 rfl)) rfl (to_an (pc := 0) rw_162_0 rfl (tt_gI (pc := 1) rw_162_1 (g_o hG147 rfl) (v := (M151.2.1 77 8)) rfl (to_c (pc := 4) rw_162_4 (x := (3 : Int32)) rfl rfl (b_ceq (pc := 5) rw_162_5 (A := (M151.2.1 77 8).toInt) (B := 3) rfl rfl (fun h538 => ?_) (fun h538 => ?_))))))))))
                  · refine to_an (pc := 14) rw_162_14 rfl (tt_gI (pc := 15) rw_162_15 (g_o hG147 rfl) (v := (M151.2.1 77 9)) rfl (to_in (pc := 18) rw_162_18 rfl (b_clt (pc := 19) rw_162_19 (A := (M151.2.1 77 9).toInt) (B := 0) rfl rfl (fun h539 => ?_) (fun h539 => ?_))))
                    · refine to_an (pc := 30) rw_162_30 rfl (to_c (pc := 31) rw_162_31 (x := (2 : Int32)) rfl rfl (s_v (pc := 32) rw_162_32 (dp1 hd (by decide)) (ls0 := [.ref 77, .int (2 : Int32)]) rfl (Nat.le_of_ble_eq_true rfl) (Nat.le_of_ble_eq_true rfl) rfl (to_rc rfl rfl rfl (g_o hG147 rfl)) rfl (to_an (pc := 0) rw_152_0 rfl (to_in (pc := 1) rw_152_1 rfl (s_pI (pc := 2) rw_152_2 hG147 rfl (fun M541 W540 => ?_))))))
                      have hG542 := g_wf hG147 W540 rfl rfl (by decide)
                      have F543 := FR.w F152 W540 (show 77 = 77 ∧ (4 = 4 ∨ 4 = 5 ∨ 7 ≤ 4 ∧ 4 ≤ 10 ∨ 14 ≤ 4 ∧ 4 ≤ 16 ∨ 4 = 25) ∨ 80 ≤ 77 ∧ 77 ≤ 84 ∧ 8 ≤ 4 ∨ 85 ≤ 77 ∧ 77 ≤ 87 ∧ 12 ≤ 4 by decide)
                      refine to_an (pc := 5) rw_152_5 rfl (to_an (pc := 6) rw_152_6 rfl ?_)
                      have c_544 : M541.2.1 77 10 = (M151.2.1 77 10) := (W_n W540 (by decide) rfl)
                      have b_545 := g_b hG147 (a := 77) (i := 10) (lo := 0) (hi := 500) rfl rfl
                      refine tt_gI (pc := 7) rw_152_7 (g_o hG542 rfl) (v := (M151.2.1 77 10)) c_544 (s_pI (pc := 10) rw_152_10 hG542 rfl (fun M547 W546 => ?_))
                      have hG548 := g_wf hG542 W546 rfl rfl (by decide)
                      have F549 := FR.w F543 W546 (show 77 = 77 ∧ (5 = 4 ∨ 5 = 5 ∨ 7 ≤ 5 ∧ 5 ≤ 10 ∨ 14 ≤ 5 ∧ 5 ≤ 16 ∨ 5 = 25) ∨ 80 ≤ 77 ∧ 77 ≤ 84 ∧ 8 ≤ 5 ∨ 85 ≤ 77 ∧ 77 ≤ 87 ∧ 12 ≤ 5 by decide)
                      refine to_c (pc := 13) rw_152_13 (x := (0 : Int32)) rfl rfl (s_r1 (pc := 14) rw_152_14 (A := 0) rfl (by decide) (b_ieq_t (pc := 35) rw_162_35 (A := 0) rfl (by decide) (to_c (pc := 42) rw_162_42 (x := (0 : Int32)) rfl rfl (s_r1 (pc := 43) rw_162_43 (A := 0) rfl (by decide) (b_ine_f (pc := 138) rw_170_138 (A := 0) rfl (by decide) (to_c (pc := 141) rw_170_141 (x := (0 : Int32)) rfl rfl (s_r1 (pc := 142) rw_170_142 (A := 0) rfl (by decide) ?_)))))))
                      have k_550 : (0 : Int32).toInt = 0 := rfl
                      have c_551 : M547.2.1 77 7 = (M151.2.1 77 7) := (W_n W546 (by decide) (W_n W540 (by decide) rfl))
                      have t_552 : (M547.2.1 77 7).toInt = (M151.2.1 77 7).toInt := congrArg Int32.toInt c_551
                      have c_553 : M547.2.1 77 6 = (M.2.1 77 6) := (W_n W546 (by decide) (W_n W540 (by decide) c_154))
                      have t_554 : (M547.2.1 77 6).toInt = (M.2.1 77 6).toInt := congrArg Int32.toInt c_553
                      have c_555 : M547.2.1 77 8 = (M151.2.1 77 8) := (W_n W546 (by decide) (W_n W540 (by decide) rfl))
                      have t_556 : (M547.2.1 77 8).toInt = (M151.2.1 77 8).toInt := congrArg Int32.toInt c_555
                      have j_557 := (FA_f (fun a i z => W_n W546 (tg_231 a i z) rfl) (FA_f (fun a i z => W_n W540 (tg_232 a i z) rfl) (FA_f (tg_220 F146) (FA_f (tg_220 F92) (FA_f (tg_221 F77) (FA_f (tg_220 F65) q2))))))
                      have j_558 := (WR_f (fun a i z => W_n W546 (by /-r77,5-/ omega) rfl) (WR_f (fun a i z => W_n W540 (by /-r77,4-/ omega) rfl) (WR_f (tg_222 F146) (WR_f (tg_222 F92) (WR_f (tg_223 F77) (WR_f (tg_222 F65) q3))))))
                      exact h (0 : Int32) M547 hG548 F549 (by decide) (by decide) (by omega) (by omega) (by omega) j_557 j_558
                    · refine to_an (pc := 22) rw_162_22 rfl (tt_gI (pc := 23) rw_162_23 (g_o hG147 rfl) (v := (M151.2.1 77 9)) rfl (to_in (pc := 26) rw_162_26 rfl (b_cle (pc := 27) rw_162_27 (A := (M151.2.1 77 9).toInt) (B := v536.toInt) rfl rfl (fun h559 => ?_) (fun h559 => ?_))))
                      · refine to_c (pc := 38) rw_162_38 (x := (1 : Int32)) rfl rfl (to_go (pc := 39) rw_162_39 (s_r1 (pc := 43) rw_162_43 (A := 1) rfl (by decide) (b_ine_t (pc := 138) rw_170_138 (A := 1) rfl (by decide) (to_an (pc := 143) rw_170_143 rfl (tt_gI (pc := 144) rw_170_144 (g_o hG147 rfl) (v := (M151.2.1 77 9)) rfl (to_is (pc := 147) rw_170_147 (ls2 := [.ref 77, .int v85, .int (M70.2.1 77 9), .int v144, .int (0 : Int32), .int (3 : Int32), .int (M151.2.1 77 9), .null, .null]) rfl rfl (to_an (pc := 149) rw_170_149 rfl (s_gJ (pc := 150) rw_170_150 hG147 rfl (fun l560 => to_i (pc := 153) rw_170_153 rfl (to_i (pc := 155) rw_170_155 rfl (to_i (pc := 157) rw_170_157 rfl ?_)))))))))))
                        refine s_add (pc := 159) rw_170_159 (A := (M151.2.1 77 9).toInt) (B := 3) rfl rfl (by omega) (fun v561 e562 => s_s (pc := 160) rw_170_160 (dp0 hd (by decide)) (ls0 := [.int (M151.2.1 77 9), .int v561, .null, .null, .null]) rfl (Nat.le_of_ble_eq_true rfl) (Nat.le_of_ble_eq_true rfl) rfl (to_rcs rfl rfl) rfl (C_168 hX (dp1 hd (by decide)) hG147 (by omega) (by omega) (by omega) (a := (M151.2.1 77 9)) (b := v561) (fun r563 M566 hG565 F564 => ?_)))
                        have F567 := FR.c F152 F564 tg_227
                        refine s_anyL (pc := 163) rw_170_163 (fun _ _ => rfl) (fun l568 => s_cl (pc := 164) rw_170_164 rfl (fun l569 => s_lcmp (pc := 165) rw_170_165 (fun v570 => b_ieq (pc := 166) rw_170_166 (A := v570.toInt) rfl (fun h571 => ?_) (fun h571 => ?_))))
                        · refine to_an (pc := 175) rw_170_175 rfl (s_v (pc := 176) rw_170_176 (dp0 hd (by decide)) (ls0 := [.ref 77]) rfl (Nat.le_of_ble_eq_true rfl) (Nat.le_of_ble_eq_true rfl) rfl (to_rc rfl rfl rfl (g_o hG565 rfl)) rfl ?_)
                          have c_572 : M566.2.1 77 7 = (M151.2.1 77 7) := (F_n F564 (show ¬ (77 < 0) by decide) rfl)
                          have t_573 : (M566.2.1 77 7).toInt = (M151.2.1 77 7).toInt := congrArg Int32.toInt c_572
                          have c_574 : M566.2.1 77 6 = (M.2.1 77 6) := (F_n F564 (show ¬ (77 < 0) by decide) c_154)
                          have t_575 : (M566.2.1 77 6).toInt = (M.2.1 77 6).toInt := congrArg Int32.toInt c_574
                          refine C_156 hX (dp1 hd (by decide)) hG565 (by omega)  (fun M581 hG577 F576 p_578 p_579 p_580 => ?_)
                          have F582 := FR.c F567 F576 tg_79
                          have b_583 := g_b hG577 (a := 77) (i := 7) (lo := 0) (hi := 500) rfl rfl
                          have c_584 : M581.2.1 77 6 = (M.2.1 77 6) := (F_n F576 (show ¬ (77 = 77 ∧ 7 ≤ 6 ∧ 6 ≤ 10) by decide) c_574)
                          have t_585 : (M581.2.1 77 6).toInt = (M.2.1 77 6).toInt := congrArg Int32.toInt c_584
                          have b_586 := g_b hG577 (a := 77) (i := 8) (lo := 0) (hi := 5) rfl rfl
                          refine to_i (pc := 179) rw_170_179 rfl (to_i (pc := 181) rw_170_181 rfl (s_add (pc := 183) rw_170_183 (A := (M151.2.1 77 9).toInt) (B := 3) rfl rfl (by omega) (fun v587 e588 => to_is (pc := 184) rw_170_184 (ls2 := [.ref 77, .int v85, .int (M70.2.1 77 9), .int v144, .int (0 : Int32), .int (3 : Int32), .int (M151.2.1 77 9), .int v587, .null]) rfl rfl (to_c (pc := 186) rw_170_186 (x := (10 : Int32)) rfl rfl (to_is (pc := 188) rw_170_188 (ls2 := [.ref 77, .int v85, .int (M70.2.1 77 9), .int v144, .int (0 : Int32), .int (3 : Int32), .int (M151.2.1 77 9), .int v587, .int (10 : Int32)]) rfl rfl (to_i (pc := 190) rw_170_190 rfl (b_ieq_t (pc := 192) rw_170_192 (A := 0) rfl (by decide) ?_)))))))
                          have k_589 : (10 : Int32).toInt = 10 := rfl
                          have c_590 : M581.2.1 77 15 = (M.2.1 77 15) := (F_n F576 (show ¬ (77 = 77 ∧ 7 ≤ 15 ∧ 15 ≤ 10) by decide) (F_n F564 (show ¬ (77 < 0) by decide) (F_n F146 (show ¬ (77 = 77 ∧ 7 ≤ 15 ∧ 15 ≤ 10) by decide) (F_n F92 (show ¬ (77 = 77 ∧ 7 ≤ 15 ∧ 15 ≤ 10) by decide) c_84))))
                          have t_591 : (M581.2.1 77 15).toInt = (M.2.1 77 15).toInt := congrArg Int32.toInt c_590
                          have j_592 := (FA_f (tg_220 F576) (FA_f (tg_218 F564) (FA_f (tg_220 F146) (FA_f (tg_220 F92) (FA_f (tg_221 F77) (FA_f (tg_220 F65) q2))))))
                          have j_593 := (WR_f (tg_222 F576) (WR_f (tg_219 F564) (WR_f (tg_222 F146) (WR_f (tg_222 F92) (WR_f (tg_223 F77) (WR_f (tg_222 F65) q3))))))
                          exact (T_170_0 hX hd q1 q2 q3 h (((0 : Int)).toNat + 1)) M581 v85 (M70.2.1 77 9) v144 (.int (0 : Int32)) (.int (3 : Int32)) (M151.2.1 77 9) v587 (10 : Int32) hG577 F582 (by omega) (by omega) (by omega) (by omega) (by omega) (by omega) (by omega) (by omega) (by omega) (by omega) (by omega) (by omega) (by omega) (by omega) (by omega) j_592 j_593 (by omega)
                        · refine to_an (pc := 169) rw_170_169 rfl (to_c (pc := 170) rw_170_170 (x := (3 : Int32)) rfl rfl (s_v (pc := 171) rw_170_171 (dp0 hd (by decide)) (ls0 := [.ref 77, .int (3 : Int32)]) rfl (Nat.le_of_ble_eq_true rfl) (Nat.le_of_ble_eq_true rfl) rfl (to_rc rfl rfl rfl (g_o hG565 rfl)) rfl (to_an (pc := 0) rw_152_0 rfl (to_in (pc := 1) rw_152_1 rfl (s_pI (pc := 2) rw_152_2 hG565 rfl (fun M595 W594 => ?_))))))
                          have hG596 := g_wf hG565 W594 rfl rfl (by decide)
                          have F597 := FR.w F567 W594 (show 77 = 77 ∧ (4 = 4 ∨ 4 = 5 ∨ 7 ≤ 4 ∧ 4 ≤ 10 ∨ 14 ≤ 4 ∧ 4 ≤ 16 ∨ 4 = 25) ∨ 80 ≤ 77 ∧ 77 ≤ 84 ∧ 8 ≤ 4 ∨ 85 ≤ 77 ∧ 77 ≤ 87 ∧ 12 ≤ 4 by decide)
                          refine to_an (pc := 5) rw_152_5 rfl (to_an (pc := 6) rw_152_6 rfl ?_)
                          have c_598 : M595.2.1 77 10 = (M151.2.1 77 10) := (W_n W594 (by decide) (F_n F564 (show ¬ (77 < 0) by decide) rfl))
                          have b_599 := g_b hG147 (a := 77) (i := 10) (lo := 0) (hi := 500) rfl rfl
                          refine tt_gI (pc := 7) rw_152_7 (g_o hG596 rfl) (v := (M151.2.1 77 10)) c_598 (s_pI (pc := 10) rw_152_10 hG596 rfl (fun M601 W600 => ?_))
                          have hG602 := g_wf hG596 W600 rfl rfl (by decide)
                          have F603 := FR.w F597 W600 (show 77 = 77 ∧ (5 = 4 ∨ 5 = 5 ∨ 7 ≤ 5 ∧ 5 ≤ 10 ∨ 14 ≤ 5 ∧ 5 ≤ 16 ∨ 5 = 25) ∨ 80 ≤ 77 ∧ 77 ≤ 84 ∧ 8 ≤ 5 ∨ 85 ≤ 77 ∧ 77 ≤ 87 ∧ 12 ≤ 5 by decide)
                          refine to_c (pc := 13) rw_152_13 (x := (0 : Int32)) rfl rfl (s_r1 (pc := 14) rw_152_14 (A := 0) rfl (by decide) (s_r1 (pc := 174) rw_170_174 (A := 0) rfl (by decide) ?_))
                          have k_604 : (0 : Int32).toInt = 0 := rfl
                          have c_605 : M601.2.1 77 7 = (M151.2.1 77 7) := (W_n W600 (by decide) (W_n W594 (by decide) (F_n F564 (show ¬ (77 < 0) by decide) rfl)))
                          have t_606 : (M601.2.1 77 7).toInt = (M151.2.1 77 7).toInt := congrArg Int32.toInt c_605
                          have c_607 : M601.2.1 77 6 = (M.2.1 77 6) := (W_n W600 (by decide) (W_n W594 (by decide) (F_n F564 (show ¬ (77 < 0) by decide) c_154)))
                          have t_608 : (M601.2.1 77 6).toInt = (M.2.1 77 6).toInt := congrArg Int32.toInt c_607
                          have c_609 : M601.2.1 77 8 = (M151.2.1 77 8) := (W_n W600 (by decide) (W_n W594 (by decide) (F_n F564 (show ¬ (77 < 0) by decide) rfl)))
                          have t_610 : (M601.2.1 77 8).toInt = (M151.2.1 77 8).toInt := congrArg Int32.toInt c_609
                          have j_611 := (FA_f (fun a i z => W_n W600 (tg_231 a i z) rfl) (FA_f (fun a i z => W_n W594 (tg_232 a i z) rfl) (FA_f (tg_218 F564) (FA_f (tg_220 F146) (FA_f (tg_220 F92) (FA_f (tg_221 F77) (FA_f (tg_220 F65) q2)))))))
                          have j_612 := (WR_f (fun a i z => W_n W600 (by /-r77,5-/ omega) rfl) (WR_f (fun a i z => W_n W594 (by /-r77,4-/ omega) rfl) (WR_f (tg_219 F564) (WR_f (tg_222 F146) (WR_f (tg_222 F92) (WR_f (tg_223 F77) (WR_f (tg_222 F65) q3)))))))
                          exact h (0 : Int32) M601 hG602 F603 (by decide) (by decide) (by omega) (by omega) (by omega) j_611 j_612
                      · refine to_an (pc := 30) rw_162_30 rfl (to_c (pc := 31) rw_162_31 (x := (2 : Int32)) rfl rfl (s_v (pc := 32) rw_162_32 (dp1 hd (by decide)) (ls0 := [.ref 77, .int (2 : Int32)]) rfl (Nat.le_of_ble_eq_true rfl) (Nat.le_of_ble_eq_true rfl) rfl (to_rc rfl rfl rfl (g_o hG147 rfl)) rfl (to_an (pc := 0) rw_152_0 rfl (to_in (pc := 1) rw_152_1 rfl (s_pI (pc := 2) rw_152_2 hG147 rfl (fun M614 W613 => ?_))))))
                        have hG615 := g_wf hG147 W613 rfl rfl (by decide)
                        have F616 := FR.w F152 W613 (show 77 = 77 ∧ (4 = 4 ∨ 4 = 5 ∨ 7 ≤ 4 ∧ 4 ≤ 10 ∨ 14 ≤ 4 ∧ 4 ≤ 16 ∨ 4 = 25) ∨ 80 ≤ 77 ∧ 77 ≤ 84 ∧ 8 ≤ 4 ∨ 85 ≤ 77 ∧ 77 ≤ 87 ∧ 12 ≤ 4 by decide)
                        refine to_an (pc := 5) rw_152_5 rfl (to_an (pc := 6) rw_152_6 rfl ?_)
                        have c_617 : M614.2.1 77 10 = (M151.2.1 77 10) := (W_n W613 (by decide) rfl)
                        have b_618 := g_b hG147 (a := 77) (i := 10) (lo := 0) (hi := 500) rfl rfl
                        refine tt_gI (pc := 7) rw_152_7 (g_o hG615 rfl) (v := (M151.2.1 77 10)) c_617 (s_pI (pc := 10) rw_152_10 hG615 rfl (fun M620 W619 => ?_))
                        have hG621 := g_wf hG615 W619 rfl rfl (by decide)
                        have F622 := FR.w F616 W619 (show 77 = 77 ∧ (5 = 4 ∨ 5 = 5 ∨ 7 ≤ 5 ∧ 5 ≤ 10 ∨ 14 ≤ 5 ∧ 5 ≤ 16 ∨ 5 = 25) ∨ 80 ≤ 77 ∧ 77 ≤ 84 ∧ 8 ≤ 5 ∨ 85 ≤ 77 ∧ 77 ≤ 87 ∧ 12 ≤ 5 by decide)
                        refine to_c (pc := 13) rw_152_13 (x := (0 : Int32)) rfl rfl (s_r1 (pc := 14) rw_152_14 (A := 0) rfl (by decide) (b_ieq_t (pc := 35) rw_162_35 (A := 0) rfl (by decide) (to_c (pc := 42) rw_162_42 (x := (0 : Int32)) rfl rfl (s_r1 (pc := 43) rw_162_43 (A := 0) rfl (by decide) (b_ine_f (pc := 138) rw_170_138 (A := 0) rfl (by decide) (to_c (pc := 141) rw_170_141 (x := (0 : Int32)) rfl rfl (s_r1 (pc := 142) rw_170_142 (A := 0) rfl (by decide) ?_)))))))
                        have k_623 : (0 : Int32).toInt = 0 := rfl
                        have c_624 : M620.2.1 77 7 = (M151.2.1 77 7) := (W_n W619 (by decide) (W_n W613 (by decide) rfl))
                        have t_625 : (M620.2.1 77 7).toInt = (M151.2.1 77 7).toInt := congrArg Int32.toInt c_624
                        have c_626 : M620.2.1 77 6 = (M.2.1 77 6) := (W_n W619 (by decide) (W_n W613 (by decide) c_154))
                        have t_627 : (M620.2.1 77 6).toInt = (M.2.1 77 6).toInt := congrArg Int32.toInt c_626
                        have c_628 : M620.2.1 77 8 = (M151.2.1 77 8) := (W_n W619 (by decide) (W_n W613 (by decide) rfl))
                        have t_629 : (M620.2.1 77 8).toInt = (M151.2.1 77 8).toInt := congrArg Int32.toInt c_628
                        have j_630 := (FA_f (fun a i z => W_n W619 (tg_231 a i z) rfl) (FA_f (fun a i z => W_n W613 (tg_232 a i z) rfl) (FA_f (tg_220 F146) (FA_f (tg_220 F92) (FA_f (tg_221 F77) (FA_f (tg_220 F65) q2))))))
                        have j_631 := (WR_f (fun a i z => W_n W619 (by /-r77,5-/ omega) rfl) (WR_f (fun a i z => W_n W613 (by /-r77,4-/ omega) rfl) (WR_f (tg_222 F146) (WR_f (tg_222 F92) (WR_f (tg_223 F77) (WR_f (tg_222 F65) q3))))))
                        exact h (0 : Int32) M620 hG621 F622 (by decide) (by decide) (by omega) (by omega) (by omega) j_630 j_631
                  · refine to_an (pc := 8) rw_162_8 rfl (to_c (pc := 9) rw_162_9 (x := (1 : Int32)) rfl rfl (s_v (pc := 10) rw_162_10 (dp1 hd (by decide)) (ls0 := [.ref 77, .int (1 : Int32)]) rfl (Nat.le_of_ble_eq_true rfl) (Nat.le_of_ble_eq_true rfl) rfl (to_rc rfl rfl rfl (g_o hG147 rfl)) rfl (to_an (pc := 0) rw_152_0 rfl (to_in (pc := 1) rw_152_1 rfl (s_pI (pc := 2) rw_152_2 hG147 rfl (fun M633 W632 => ?_))))))
                    have hG634 := g_wf hG147 W632 rfl rfl (by decide)
                    have F635 := FR.w F152 W632 (show 77 = 77 ∧ (4 = 4 ∨ 4 = 5 ∨ 7 ≤ 4 ∧ 4 ≤ 10 ∨ 14 ≤ 4 ∧ 4 ≤ 16 ∨ 4 = 25) ∨ 80 ≤ 77 ∧ 77 ≤ 84 ∧ 8 ≤ 4 ∨ 85 ≤ 77 ∧ 77 ≤ 87 ∧ 12 ≤ 4 by decide)
                    refine to_an (pc := 5) rw_152_5 rfl (to_an (pc := 6) rw_152_6 rfl ?_)
                    have c_636 : M633.2.1 77 10 = (M151.2.1 77 10) := (W_n W632 (by decide) rfl)
                    have b_637 := g_b hG147 (a := 77) (i := 10) (lo := 0) (hi := 500) rfl rfl
                    refine tt_gI (pc := 7) rw_152_7 (g_o hG634 rfl) (v := (M151.2.1 77 10)) c_636 (s_pI (pc := 10) rw_152_10 hG634 rfl (fun M639 W638 => ?_))
                    have hG640 := g_wf hG634 W638 rfl rfl (by decide)
                    have F641 := FR.w F635 W638 (show 77 = 77 ∧ (5 = 4 ∨ 5 = 5 ∨ 7 ≤ 5 ∧ 5 ≤ 10 ∨ 14 ≤ 5 ∧ 5 ≤ 16 ∨ 5 = 25) ∨ 80 ≤ 77 ∧ 77 ≤ 84 ∧ 8 ≤ 5 ∨ 85 ≤ 77 ∧ 77 ≤ 87 ∧ 12 ≤ 5 by decide)
                    refine to_c (pc := 13) rw_152_13 (x := (0 : Int32)) rfl rfl (s_r1 (pc := 14) rw_152_14 (A := 0) rfl (by decide) (s_r1 (pc := 13) rw_162_13 (A := 0) rfl (by decide) (b_ine_f (pc := 138) rw_170_138 (A := 0) rfl (by decide) (to_c (pc := 141) rw_170_141 (x := (0 : Int32)) rfl rfl (s_r1 (pc := 142) rw_170_142 (A := 0) rfl (by decide) ?_)))))
                    have k_642 : (0 : Int32).toInt = 0 := rfl
                    have c_643 : M639.2.1 77 7 = (M151.2.1 77 7) := (W_n W638 (by decide) (W_n W632 (by decide) rfl))
                    have t_644 : (M639.2.1 77 7).toInt = (M151.2.1 77 7).toInt := congrArg Int32.toInt c_643
                    have c_645 : M639.2.1 77 6 = (M.2.1 77 6) := (W_n W638 (by decide) (W_n W632 (by decide) c_154))
                    have t_646 : (M639.2.1 77 6).toInt = (M.2.1 77 6).toInt := congrArg Int32.toInt c_645
                    have c_647 : M639.2.1 77 8 = (M151.2.1 77 8) := (W_n W638 (by decide) (W_n W632 (by decide) rfl))
                    have t_648 : (M639.2.1 77 8).toInt = (M151.2.1 77 8).toInt := congrArg Int32.toInt c_647
                    have j_649 := (FA_f (fun a i z => W_n W638 (tg_231 a i z) rfl) (FA_f (fun a i z => W_n W632 (tg_232 a i z) rfl) (FA_f (tg_220 F146) (FA_f (tg_220 F92) (FA_f (tg_221 F77) (FA_f (tg_220 F65) q2))))))
                    have j_650 := (WR_f (fun a i z => W_n W638 (by /-r77,5-/ omega) rfl) (WR_f (fun a i z => W_n W632 (by /-r77,4-/ omega) rfl) (WR_f (tg_222 F146) (WR_f (tg_222 F92) (WR_f (tg_223 F77) (WR_f (tg_222 F65) q3))))))
                    exact h (0 : Int32) M639 hG640 F641 (by decide) (by decide) (by omega) (by omega) (by omega) j_649 j_650
              · refine to_c (pc := 96) rw_170_96 (x := (1 : Int32)) rfl rfl (to_go (pc := 97) rw_170_97 (to_is (pc := 101) rw_170_101 (ls2 := [.ref 77, .int v85, .int (M70.2.1 77 9), .int v144, .int (1 : Int32), .null, .null, .null, .null]) rfl rfl (to_in (pc := 103) rw_170_103 rfl (to_c (pc := 104) rw_170_104 (x := (1 : Int32)) rfl rfl (b_cne_t (pc := 105) rw_170_105 (A := v144.toInt) (B := 1) rfl rfl (by omega) (to_in (pc := 112) rw_170_112 rfl (to_c (pc := 113) rw_170_113 (x := (2 : Int32)) rfl rfl (b_cne_t (pc := 114) rw_170_114 (A := v144.toInt) (B := 2) rfl rfl (by omega) (to_c (pc := 121) rw_170_121 (x := (0 : Int32)) rfl rfl (to_is (pc := 122) rw_170_122 (ls2 := [.ref 77, .int v85, .int (M70.2.1 77 9), .int v144, .int (1 : Int32), .int (0 : Int32), .null, .null, .null]) rfl rfl (to_an (pc := 124) rw_170_124 rfl ?_)))))))))))
                refine to_c (pc := 125) rw_170_125 (x := (0 : Int32)) rfl rfl (to_an (pc := 126) rw_170_126 rfl ?_)
                have c_651 : M151.2.1 77 14 = (M.2.1 77 14) := (F_n F146 (show ¬ (77 = 77 ∧ 7 ≤ 14 ∧ 14 ≤ 10) by decide) (F_n F92 (show ¬ (77 = 77 ∧ 7 ≤ 14 ∧ 14 ≤ 10) by decide) (F_n F77 (show ¬ (77 = 77 ∧ (14 = 4 ∨ 14 = 5)) by decide) (F_n F65 (show ¬ (77 = 77 ∧ 7 ≤ 14 ∧ 14 ≤ 10) by decide) rfl))))
                have b_652 := g_b hG (a := 77) (i := 14) (lo := 10) (hi := 60) rfl rfl
                refine tt_gI (pc := 127) rw_170_127 (g_o hG147 rfl) (v := (M.2.1 77 14)) c_651 (to_c (pc := 130) rw_170_130 (x := (1 : Int32)) rfl rfl (s_sub (pc := 131) rw_170_131 (A := (M.2.1 77 14).toInt) (B := 1) rfl rfl (by omega) (fun v653 e654 => to_i (pc := 132) rw_170_132 rfl (s_sub (pc := 134) rw_170_134 (A := v653.toInt) (B := 0) rfl rfl (by omega) (fun v655 e656 => s_v (pc := 135) rw_170_135 (dp0 hd (by decide)) (ls0 := [.ref 77, .int (0 : Int32), .int v655]) rfl (Nat.le_of_ble_eq_true rfl) (Nat.le_of_ble_eq_true rfl) rfl (to_rc rfl rfl rfl (g_o hG147 rfl)) rfl (to_an (pc := 0) rw_162_0 rfl (tt_gI (pc := 1) rw_162_1 (g_o hG147 rfl) (v := (M151.2.1 77 8)) rfl (to_c (pc := 4) rw_162_4 (x := (3 : Int32)) rfl rfl (b_ceq (pc := 5) rw_162_5 (A := (M151.2.1 77 8).toInt) (B := 3) rfl rfl (fun h657 => ?_) (fun h657 => ?_))))))))))
                · refine to_an (pc := 14) rw_162_14 rfl (tt_gI (pc := 15) rw_162_15 (g_o hG147 rfl) (v := (M151.2.1 77 9)) rfl (to_in (pc := 18) rw_162_18 rfl (b_clt (pc := 19) rw_162_19 (A := (M151.2.1 77 9).toInt) (B := 0) rfl rfl (fun h658 => ?_) (fun h658 => ?_))))
                  · refine to_an (pc := 30) rw_162_30 rfl (to_c (pc := 31) rw_162_31 (x := (2 : Int32)) rfl rfl (s_v (pc := 32) rw_162_32 (dp1 hd (by decide)) (ls0 := [.ref 77, .int (2 : Int32)]) rfl (Nat.le_of_ble_eq_true rfl) (Nat.le_of_ble_eq_true rfl) rfl (to_rc rfl rfl rfl (g_o hG147 rfl)) rfl (to_an (pc := 0) rw_152_0 rfl (to_in (pc := 1) rw_152_1 rfl (s_pI (pc := 2) rw_152_2 hG147 rfl (fun M660 W659 => ?_))))))
                    have hG661 := g_wf hG147 W659 rfl rfl (by decide)
                    have F662 := FR.w F152 W659 (show 77 = 77 ∧ (4 = 4 ∨ 4 = 5 ∨ 7 ≤ 4 ∧ 4 ≤ 10 ∨ 14 ≤ 4 ∧ 4 ≤ 16 ∨ 4 = 25) ∨ 80 ≤ 77 ∧ 77 ≤ 84 ∧ 8 ≤ 4 ∨ 85 ≤ 77 ∧ 77 ≤ 87 ∧ 12 ≤ 4 by decide)
                    refine to_an (pc := 5) rw_152_5 rfl (to_an (pc := 6) rw_152_6 rfl ?_)
                    have c_663 : M660.2.1 77 10 = (M151.2.1 77 10) := (W_n W659 (by decide) rfl)
                    have b_664 := g_b hG147 (a := 77) (i := 10) (lo := 0) (hi := 500) rfl rfl
                    refine tt_gI (pc := 7) rw_152_7 (g_o hG661 rfl) (v := (M151.2.1 77 10)) c_663 (s_pI (pc := 10) rw_152_10 hG661 rfl (fun M666 W665 => ?_))
                    have hG667 := g_wf hG661 W665 rfl rfl (by decide)
                    have F668 := FR.w F662 W665 (show 77 = 77 ∧ (5 = 4 ∨ 5 = 5 ∨ 7 ≤ 5 ∧ 5 ≤ 10 ∨ 14 ≤ 5 ∧ 5 ≤ 16 ∨ 5 = 25) ∨ 80 ≤ 77 ∧ 77 ≤ 84 ∧ 8 ≤ 5 ∨ 85 ≤ 77 ∧ 77 ≤ 87 ∧ 12 ≤ 5 by decide)
                    refine to_c (pc := 13) rw_152_13 (x := (0 : Int32)) rfl rfl (s_r1 (pc := 14) rw_152_14 (A := 0) rfl (by decide) (b_ieq_t (pc := 35) rw_162_35 (A := 0) rfl (by decide) (to_c (pc := 42) rw_162_42 (x := (0 : Int32)) rfl rfl (s_r1 (pc := 43) rw_162_43 (A := 0) rfl (by decide) (b_ine_f (pc := 138) rw_170_138 (A := 0) rfl (by decide) (to_c (pc := 141) rw_170_141 (x := (0 : Int32)) rfl rfl (s_r1 (pc := 142) rw_170_142 (A := 0) rfl (by decide) ?_)))))))
                    have k_669 : (0 : Int32).toInt = 0 := rfl
                    have c_670 : M666.2.1 77 7 = (M151.2.1 77 7) := (W_n W665 (by decide) (W_n W659 (by decide) rfl))
                    have t_671 : (M666.2.1 77 7).toInt = (M151.2.1 77 7).toInt := congrArg Int32.toInt c_670
                    have c_672 : M666.2.1 77 6 = (M.2.1 77 6) := (W_n W665 (by decide) (W_n W659 (by decide) c_154))
                    have t_673 : (M666.2.1 77 6).toInt = (M.2.1 77 6).toInt := congrArg Int32.toInt c_672
                    have c_674 : M666.2.1 77 8 = (M151.2.1 77 8) := (W_n W665 (by decide) (W_n W659 (by decide) rfl))
                    have t_675 : (M666.2.1 77 8).toInt = (M151.2.1 77 8).toInt := congrArg Int32.toInt c_674
                    have j_676 := (FA_f (fun a i z => W_n W665 (tg_231 a i z) rfl) (FA_f (fun a i z => W_n W659 (tg_232 a i z) rfl) (FA_f (tg_220 F146) (FA_f (tg_220 F92) (FA_f (tg_221 F77) (FA_f (tg_220 F65) q2))))))
                    have j_677 := (WR_f (fun a i z => W_n W665 (by /-r77,5-/ omega) rfl) (WR_f (fun a i z => W_n W659 (by /-r77,4-/ omega) rfl) (WR_f (tg_222 F146) (WR_f (tg_222 F92) (WR_f (tg_223 F77) (WR_f (tg_222 F65) q3))))))
                    exact h (0 : Int32) M666 hG667 F668 (by decide) (by decide) (by omega) (by omega) (by omega) j_676 j_677
                  · refine to_an (pc := 22) rw_162_22 rfl (tt_gI (pc := 23) rw_162_23 (g_o hG147 rfl) (v := (M151.2.1 77 9)) rfl (to_in (pc := 26) rw_162_26 rfl (b_cle (pc := 27) rw_162_27 (A := (M151.2.1 77 9).toInt) (B := v655.toInt) rfl rfl (fun h678 => ?_) (fun h678 => ?_))))
                    · refine to_c (pc := 38) rw_162_38 (x := (1 : Int32)) rfl rfl (to_go (pc := 39) rw_162_39 (s_r1 (pc := 43) rw_162_43 (A := 1) rfl (by decide) (b_ine_t (pc := 138) rw_170_138 (A := 1) rfl (by decide) (to_an (pc := 143) rw_170_143 rfl (tt_gI (pc := 144) rw_170_144 (g_o hG147 rfl) (v := (M151.2.1 77 9)) rfl (to_is (pc := 147) rw_170_147 (ls2 := [.ref 77, .int v85, .int (M70.2.1 77 9), .int v144, .int (1 : Int32), .int (0 : Int32), .int (M151.2.1 77 9), .null, .null]) rfl rfl (to_an (pc := 149) rw_170_149 rfl (s_gJ (pc := 150) rw_170_150 hG147 rfl (fun l679 => to_i (pc := 153) rw_170_153 rfl (to_i (pc := 155) rw_170_155 rfl (to_i (pc := 157) rw_170_157 rfl ?_)))))))))))
                      refine s_add (pc := 159) rw_170_159 (A := (M151.2.1 77 9).toInt) (B := 0) rfl rfl (by omega) (fun v680 e681 => s_s (pc := 160) rw_170_160 (dp0 hd (by decide)) (ls0 := [.int (M151.2.1 77 9), .int v680, .null, .null, .null]) rfl (Nat.le_of_ble_eq_true rfl) (Nat.le_of_ble_eq_true rfl) rfl (to_rcs rfl rfl) rfl (C_168 hX (dp1 hd (by decide)) hG147 (by omega) (by omega) (by omega) (a := (M151.2.1 77 9)) (b := v680) (fun r682 M685 hG684 F683 => ?_)))
                      have F686 := FR.c F152 F683 tg_227
                      refine s_anyL (pc := 163) rw_170_163 (fun _ _ => rfl) (fun l687 => s_cl (pc := 164) rw_170_164 rfl (fun l688 => s_lcmp (pc := 165) rw_170_165 (fun v689 => b_ieq (pc := 166) rw_170_166 (A := v689.toInt) rfl (fun h690 => ?_) (fun h690 => ?_))))
                      · refine to_an (pc := 175) rw_170_175 rfl (s_v (pc := 176) rw_170_176 (dp0 hd (by decide)) (ls0 := [.ref 77]) rfl (Nat.le_of_ble_eq_true rfl) (Nat.le_of_ble_eq_true rfl) rfl (to_rc rfl rfl rfl (g_o hG684 rfl)) rfl ?_)
                        have c_691 : M685.2.1 77 7 = (M151.2.1 77 7) := (F_n F683 (show ¬ (77 < 0) by decide) rfl)
                        have t_692 : (M685.2.1 77 7).toInt = (M151.2.1 77 7).toInt := congrArg Int32.toInt c_691
                        have c_693 : M685.2.1 77 6 = (M.2.1 77 6) := (F_n F683 (show ¬ (77 < 0) by decide) c_154)
                        have t_694 : (M685.2.1 77 6).toInt = (M.2.1 77 6).toInt := congrArg Int32.toInt c_693
                        refine C_156 hX (dp1 hd (by decide)) hG684 (by omega)  (fun M700 hG696 F695 p_697 p_698 p_699 => ?_)
                        have F701 := FR.c F686 F695 tg_79
                        have b_702 := g_b hG696 (a := 77) (i := 7) (lo := 0) (hi := 500) rfl rfl
                        have c_703 : M700.2.1 77 6 = (M.2.1 77 6) := (F_n F695 (show ¬ (77 = 77 ∧ 7 ≤ 6 ∧ 6 ≤ 10) by decide) c_693)
                        have t_704 : (M700.2.1 77 6).toInt = (M.2.1 77 6).toInt := congrArg Int32.toInt c_703
                        have b_705 := g_b hG696 (a := 77) (i := 8) (lo := 0) (hi := 5) rfl rfl
                        refine to_i (pc := 179) rw_170_179 rfl (to_i (pc := 181) rw_170_181 rfl (s_add (pc := 183) rw_170_183 (A := (M151.2.1 77 9).toInt) (B := 0) rfl rfl (by omega) (fun v706 e707 => to_is (pc := 184) rw_170_184 (ls2 := [.ref 77, .int v85, .int (M70.2.1 77 9), .int v144, .int (1 : Int32), .int (0 : Int32), .int (M151.2.1 77 9), .int v706, .null]) rfl rfl (to_c (pc := 186) rw_170_186 (x := (10 : Int32)) rfl rfl (to_is (pc := 188) rw_170_188 (ls2 := [.ref 77, .int v85, .int (M70.2.1 77 9), .int v144, .int (1 : Int32), .int (0 : Int32), .int (M151.2.1 77 9), .int v706, .int (10 : Int32)]) rfl rfl (to_i (pc := 190) rw_170_190 rfl (b_ieq_f (pc := 192) rw_170_192 (A := 1) rfl (by decide) (to_an (pc := 195) rw_170_195 rfl (to_in (pc := 196) rw_170_196 rfl (b_ine_t (pc := 197) rw_170_197 (A := v144.toInt) rfl (by omega) (to_i (pc := 207) rw_170_207 rfl ?_)))))))))))
                        refine to_an (pc := 209) rw_170_209 rfl ?_
                        have c_708 : M700.2.1 77 14 = (M.2.1 77 14) := (F_n F695 (show ¬ (77 = 77 ∧ 7 ≤ 14 ∧ 14 ≤ 10) by decide) (F_n F683 (show ¬ (77 < 0) by decide) c_651))
                        refine tt_gI (pc := 210) rw_170_210 (g_o hG696 rfl) (v := (M.2.1 77 14)) c_708 (to_c (pc := 213) rw_170_213 (x := (1 : Int32)) rfl rfl (s_sub (pc := 214) rw_170_214 (A := (M.2.1 77 14).toInt) (B := 1) rfl rfl (by omega) (fun v709 e710 => s_v (pc := 215) rw_170_215 (dp0 hd (by decide)) (ls0 := [.ref 77, .int (M151.2.1 77 9), .int v709]) rfl (Nat.le_of_ble_eq_true rfl) (Nat.le_of_ble_eq_true rfl) rfl (to_rc rfl rfl rfl (g_o hG696 rfl)) rfl (to_an (pc := 0) rw_162_0 rfl (tt_gI (pc := 1) rw_162_1 (g_o hG696 rfl) (v := (M700.2.1 77 8)) rfl (to_c (pc := 4) rw_162_4 (x := (3 : Int32)) rfl rfl (b_ceq (pc := 5) rw_162_5 (A := (M700.2.1 77 8).toInt) (B := 3) rfl rfl (fun h711 => ?_) (fun h711 => ?_))))))))
                        · refine to_an (pc := 14) rw_162_14 rfl (tt_gI (pc := 15) rw_162_15 (g_o hG696 rfl) (v := (M700.2.1 77 9)) rfl (to_in (pc := 18) rw_162_18 rfl (b_clt (pc := 19) rw_162_19 (A := (M700.2.1 77 9).toInt) (B := (M151.2.1 77 9).toInt) rfl rfl (fun h712 => ?_) (fun h712 => ?_))))
                          · refine to_an (pc := 30) rw_162_30 rfl (to_c (pc := 31) rw_162_31 (x := (2 : Int32)) rfl rfl (s_v (pc := 32) rw_162_32 (dp1 hd (by decide)) (ls0 := [.ref 77, .int (2 : Int32)]) rfl (Nat.le_of_ble_eq_true rfl) (Nat.le_of_ble_eq_true rfl) rfl (to_rc rfl rfl rfl (g_o hG696 rfl)) rfl (to_an (pc := 0) rw_152_0 rfl (to_in (pc := 1) rw_152_1 rfl (s_pI (pc := 2) rw_152_2 hG696 rfl (fun M714 W713 => ?_))))))
                            have hG715 := g_wf hG696 W713 rfl rfl (by decide)
                            have F716 := FR.w F701 W713 (show 77 = 77 ∧ (4 = 4 ∨ 4 = 5 ∨ 7 ≤ 4 ∧ 4 ≤ 10 ∨ 14 ≤ 4 ∧ 4 ≤ 16 ∨ 4 = 25) ∨ 80 ≤ 77 ∧ 77 ≤ 84 ∧ 8 ≤ 4 ∨ 85 ≤ 77 ∧ 77 ≤ 87 ∧ 12 ≤ 4 by decide)
                            refine to_an (pc := 5) rw_152_5 rfl (to_an (pc := 6) rw_152_6 rfl ?_)
                            have c_717 : M714.2.1 77 10 = (M700.2.1 77 10) := (W_n W713 (by decide) rfl)
                            have b_718 := g_b hG696 (a := 77) (i := 10) (lo := 0) (hi := 500) rfl rfl
                            refine tt_gI (pc := 7) rw_152_7 (g_o hG715 rfl) (v := (M700.2.1 77 10)) c_717 (s_pI (pc := 10) rw_152_10 hG715 rfl (fun M720 W719 => ?_))
                            have hG721 := g_wf hG715 W719 rfl rfl (by decide)
                            have F722 := FR.w F716 W719 (show 77 = 77 ∧ (5 = 4 ∨ 5 = 5 ∨ 7 ≤ 5 ∧ 5 ≤ 10 ∨ 14 ≤ 5 ∧ 5 ≤ 16 ∨ 5 = 25) ∨ 80 ≤ 77 ∧ 77 ≤ 84 ∧ 8 ≤ 5 ∨ 85 ≤ 77 ∧ 77 ≤ 87 ∧ 12 ≤ 5 by decide)
                            refine to_c (pc := 13) rw_152_13 (x := (0 : Int32)) rfl rfl (s_r1 (pc := 14) rw_152_14 (A := 0) rfl (by decide) (b_ieq_t (pc := 35) rw_162_35 (A := 0) rfl (by decide) (to_c (pc := 42) rw_162_42 (x := (0 : Int32)) rfl rfl (s_r1 (pc := 43) rw_162_43 (A := 0) rfl (by decide) (b_ine_f (pc := 218) rw_170_218 (A := 0) rfl (by decide) (to_c (pc := 221) rw_170_221 (x := (0 : Int32)) rfl rfl (s_r1 (pc := 222) rw_170_222 (A := 0) rfl (by decide) ?_)))))))
                            have k_723 : (0 : Int32).toInt = 0 := rfl
                            have c_724 : M720.2.1 77 7 = (M700.2.1 77 7) := (W_n W719 (by decide) (W_n W713 (by decide) rfl))
                            have t_725 : (M720.2.1 77 7).toInt = (M700.2.1 77 7).toInt := congrArg Int32.toInt c_724
                            have c_726 : M720.2.1 77 6 = (M.2.1 77 6) := (W_n W719 (by decide) (W_n W713 (by decide) c_703))
                            have t_727 : (M720.2.1 77 6).toInt = (M.2.1 77 6).toInt := congrArg Int32.toInt c_726
                            have c_728 : M720.2.1 77 8 = (M700.2.1 77 8) := (W_n W719 (by decide) (W_n W713 (by decide) rfl))
                            have t_729 : (M720.2.1 77 8).toInt = (M700.2.1 77 8).toInt := congrArg Int32.toInt c_728
                            have j_730 := (FA_f (fun a i z => W_n W719 (tg_231 a i z) rfl) (FA_f (fun a i z => W_n W713 (tg_232 a i z) rfl) (FA_f (tg_220 F695) (FA_f (tg_218 F683) (FA_f (tg_220 F146) (FA_f (tg_220 F92) (FA_f (tg_221 F77) (FA_f (tg_220 F65) q2))))))))
                            have j_731 := (WR_f (fun a i z => W_n W719 (by /-r77,5-/ omega) rfl) (WR_f (fun a i z => W_n W713 (by /-r77,4-/ omega) rfl) (WR_f (tg_222 F695) (WR_f (tg_219 F683) (WR_f (tg_222 F146) (WR_f (tg_222 F92) (WR_f (tg_223 F77) (WR_f (tg_222 F65) q3))))))))
                            exact h (0 : Int32) M720 hG721 F722 (by decide) (by decide) (by omega) (by omega) (by omega) j_730 j_731
                          · refine to_an (pc := 22) rw_162_22 rfl (tt_gI (pc := 23) rw_162_23 (g_o hG696 rfl) (v := (M700.2.1 77 9)) rfl (to_in (pc := 26) rw_162_26 rfl (b_cle (pc := 27) rw_162_27 (A := (M700.2.1 77 9).toInt) (B := v709.toInt) rfl rfl (fun h732 => ?_) (fun h732 => ?_))))
                            · refine to_c (pc := 38) rw_162_38 (x := (1 : Int32)) rfl rfl (to_go (pc := 39) rw_162_39 (s_r1 (pc := 43) rw_162_43 (A := 1) rfl (by decide) (b_ine_t (pc := 218) rw_170_218 (A := 1) rfl (by decide) (to_an (pc := 223) rw_170_223 rfl (tt_gI (pc := 224) rw_170_224 (g_o hG696 rfl) (v := (M700.2.1 77 9)) rfl (to_is (pc := 227) rw_170_227 (ls2 := [.ref 77, .int v85, .int (M70.2.1 77 9), .int v144, .int (1 : Int32), .int (0 : Int32), .int (M151.2.1 77 9), .int (M700.2.1 77 9), .int (10 : Int32)]) rfl rfl (to_i (pc := 229) rw_170_229 rfl (to_i (pc := 231) rw_170_231 rfl (s_sub (pc := 233) rw_170_233 (A := (M700.2.1 77 9).toInt) (B := (M151.2.1 77 9).toInt) rfl rfl (by omega) (fun v733 e734 => to_c (pc := 234) rw_170_234 (x := (23 : Int32)) rfl rfl (b_cle (pc := 236) rw_170_236 (A := v733.toInt) (B := 23) rfl rfl (fun h735 => ?_) (fun h735 => ?_))))))))))))
                              · refine to_an (pc := 245) rw_170_245 rfl (s_gJ (pc := 246) rw_170_246 hG696 rfl (fun l736 => to_i (pc := 249) rw_170_249 rfl (to_i (pc := 251) rw_170_251 rfl (s_s (pc := 253) rw_170_253 (dp0 hd (by decide)) (ls0 := [.int (M151.2.1 77 9), .int (M700.2.1 77 9), .null, .null, .null]) rfl (Nat.le_of_ble_eq_true rfl) (Nat.le_of_ble_eq_true rfl) rfl (to_rcs rfl rfl) rfl (C_168 hX (dp1 hd (by decide)) hG696 (by omega) (by omega) (by omega) (a := (M151.2.1 77 9)) (b := (M700.2.1 77 9)) (fun r737 M740 hG739 F738 => ?_))))))
                                have F741 := FR.c F701 F738 tg_227
                                refine s_anyL (pc := 256) rw_170_256 (fun _ _ => rfl) (fun l742 => s_cl (pc := 257) rw_170_257 rfl (fun l743 => s_lcmp (pc := 258) rw_170_258 (fun v744 => b_ieq (pc := 259) rw_170_259 (A := v744.toInt) rfl (fun h745 => ?_) (fun h745 => ?_))))
                                · refine to_an (pc := 268) rw_170_268 rfl (s_v (pc := 269) rw_170_269 (dp0 hd (by decide)) (ls0 := [.ref 77]) rfl (Nat.le_of_ble_eq_true rfl) (Nat.le_of_ble_eq_true rfl) rfl (to_rc rfl rfl rfl (g_o hG739 rfl)) rfl ?_)
                                  have c_746 : M740.2.1 77 7 = (M700.2.1 77 7) := (F_n F738 (show ¬ (77 < 0) by decide) rfl)
                                  have t_747 : (M740.2.1 77 7).toInt = (M700.2.1 77 7).toInt := congrArg Int32.toInt c_746
                                  have c_748 : M740.2.1 77 6 = (M.2.1 77 6) := (F_n F738 (show ¬ (77 < 0) by decide) c_703)
                                  have t_749 : (M740.2.1 77 6).toInt = (M.2.1 77 6).toInt := congrArg Int32.toInt c_748
                                  refine C_156 hX (dp1 hd (by decide)) hG739 (by omega)  (fun M755 hG751 F750 p_752 p_753 p_754 => ?_)
                                  have F756 := FR.c F741 F750 tg_79
                                  have b_757 := g_b hG751 (a := 77) (i := 7) (lo := 0) (hi := 500) rfl rfl
                                  have c_758 : M755.2.1 77 6 = (M.2.1 77 6) := (F_n F750 (show ¬ (77 = 77 ∧ 7 ≤ 6 ∧ 6 ≤ 10) by decide) c_748)
                                  have t_759 : (M755.2.1 77 6).toInt = (M.2.1 77 6).toInt := congrArg Int32.toInt c_758
                                  have b_760 := g_b hG751 (a := 77) (i := 8) (lo := 0) (hi := 5) rfl rfl
                                  refine to_i (pc := 272) rw_170_272 rfl (to_i (pc := 274) rw_170_274 rfl (s_sub (pc := 276) rw_170_276 (A := (M700.2.1 77 9).toInt) (B := (M151.2.1 77 9).toInt) rfl rfl (by omega) (fun v761 e762 => to_c (pc := 277) rw_170_277 (x := (1 : Int32)) rfl rfl (s_add (pc := 278) rw_170_278 (A := v761.toInt) (B := 1) rfl rfl (by omega) (fun v763 e764 => to_is (pc := 279) rw_170_279 (ls2 := [.ref 77, .int v85, .int (M70.2.1 77 9), .int v144, .int (1 : Int32), .int (0 : Int32), .int (M151.2.1 77 9), .int (M700.2.1 77 9), .int v763]) rfl rfl (to_in (pc := 281) rw_170_281 rfl (to_c (pc := 282) rw_170_282 (x := (3 : Int32)) rfl rfl (b_cne_f (pc := 283) rw_170_283 (A := v144.toInt) (B := 3) rfl rfl (by omega) (to_an (pc := 286) rw_170_286 rfl (to_c (pc := 287) rw_170_287 (x := (1 : Int32)) rfl rfl (to_i (pc := 288) rw_170_288 rfl ?_)))))))))))
                                  refine to_c (pc := 290) rw_170_290 (x := (4 : Int32)) rfl rfl (b_cge (pc := 291) rw_170_291 (A := v763.toInt) (B := 4) rfl rfl (fun h765 => ?_) (fun h765 => ?_))
                                  · refine to_c (pc := 299) rw_170_299 (x := (4 : Int32)) rfl rfl (s_v (pc := 300) rw_170_300 (dp0 hd (by decide)) (ls0 := [.ref 77, .int (1 : Int32), .int (4 : Int32)]) rfl (Nat.le_of_ble_eq_true rfl) (Nat.le_of_ble_eq_true rfl) rfl (to_rc rfl rfl rfl (g_o hG751 rfl)) rfl (to_an (pc := 0) rw_162_0 rfl (tt_gI (pc := 1) rw_162_1 (g_o hG751 rfl) (v := (M755.2.1 77 8)) rfl (to_c (pc := 4) rw_162_4 (x := (3 : Int32)) rfl rfl (b_ceq (pc := 5) rw_162_5 (A := (M755.2.1 77 8).toInt) (B := 3) rfl rfl (fun h766 => ?_) (fun h766 => ?_))))))
                                    · refine to_an (pc := 14) rw_162_14 rfl (tt_gI (pc := 15) rw_162_15 (g_o hG751 rfl) (v := (M755.2.1 77 9)) rfl (to_in (pc := 18) rw_162_18 rfl (b_clt (pc := 19) rw_162_19 (A := (M755.2.1 77 9).toInt) (B := 1) rfl rfl (fun h767 => ?_) (fun h767 => ?_))))
                                      · refine to_an (pc := 30) rw_162_30 rfl (to_c (pc := 31) rw_162_31 (x := (2 : Int32)) rfl rfl (s_v (pc := 32) rw_162_32 (dp1 hd (by decide)) (ls0 := [.ref 77, .int (2 : Int32)]) rfl (Nat.le_of_ble_eq_true rfl) (Nat.le_of_ble_eq_true rfl) rfl (to_rc rfl rfl rfl (g_o hG751 rfl)) rfl (to_an (pc := 0) rw_152_0 rfl (to_in (pc := 1) rw_152_1 rfl (s_pI (pc := 2) rw_152_2 hG751 rfl (fun M769 W768 => ?_))))))
                                        have hG770 := g_wf hG751 W768 rfl rfl (by decide)
                                        have F771 := FR.w F756 W768 (show 77 = 77 ∧ (4 = 4 ∨ 4 = 5 ∨ 7 ≤ 4 ∧ 4 ≤ 10 ∨ 14 ≤ 4 ∧ 4 ≤ 16 ∨ 4 = 25) ∨ 80 ≤ 77 ∧ 77 ≤ 84 ∧ 8 ≤ 4 ∨ 85 ≤ 77 ∧ 77 ≤ 87 ∧ 12 ≤ 4 by decide)
                                        refine to_an (pc := 5) rw_152_5 rfl (to_an (pc := 6) rw_152_6 rfl ?_)
                                        have c_772 : M769.2.1 77 10 = (M755.2.1 77 10) := (W_n W768 (by decide) rfl)
                                        have b_773 := g_b hG751 (a := 77) (i := 10) (lo := 0) (hi := 500) rfl rfl
                                        refine tt_gI (pc := 7) rw_152_7 (g_o hG770 rfl) (v := (M755.2.1 77 10)) c_772 (s_pI (pc := 10) rw_152_10 hG770 rfl (fun M775 W774 => ?_))
                                        have hG776 := g_wf hG770 W774 rfl rfl (by decide)
                                        have F777 := FR.w F771 W774 (show 77 = 77 ∧ (5 = 4 ∨ 5 = 5 ∨ 7 ≤ 5 ∧ 5 ≤ 10 ∨ 14 ≤ 5 ∧ 5 ≤ 16 ∨ 5 = 25) ∨ 80 ≤ 77 ∧ 77 ≤ 84 ∧ 8 ≤ 5 ∨ 85 ≤ 77 ∧ 77 ≤ 87 ∧ 12 ≤ 5 by decide)
                                        refine to_c (pc := 13) rw_152_13 (x := (0 : Int32)) rfl rfl (s_r1 (pc := 14) rw_152_14 (A := 0) rfl (by decide) (b_ieq_t (pc := 35) rw_162_35 (A := 0) rfl (by decide) (to_c (pc := 42) rw_162_42 (x := (0 : Int32)) rfl rfl (s_r1 (pc := 43) rw_162_43 (A := 0) rfl (by decide) (b_ine_f (pc := 303) rw_170_303 (A := 0) rfl (by decide) (to_c (pc := 306) rw_170_306 (x := (0 : Int32)) rfl rfl (s_r1 (pc := 307) rw_170_307 (A := 0) rfl (by decide) ?_)))))))
                                        have k_778 : (0 : Int32).toInt = 0 := rfl
                                        have c_779 : M775.2.1 77 7 = (M755.2.1 77 7) := (W_n W774 (by decide) (W_n W768 (by decide) rfl))
                                        have t_780 : (M775.2.1 77 7).toInt = (M755.2.1 77 7).toInt := congrArg Int32.toInt c_779
                                        have c_781 : M775.2.1 77 6 = (M.2.1 77 6) := (W_n W774 (by decide) (W_n W768 (by decide) c_758))
                                        have t_782 : (M775.2.1 77 6).toInt = (M.2.1 77 6).toInt := congrArg Int32.toInt c_781
                                        have c_783 : M775.2.1 77 8 = (M755.2.1 77 8) := (W_n W774 (by decide) (W_n W768 (by decide) rfl))
                                        have t_784 : (M775.2.1 77 8).toInt = (M755.2.1 77 8).toInt := congrArg Int32.toInt c_783
                                        have j_785 := (FA_f (fun a i z => W_n W774 (tg_231 a i z) rfl) (FA_f (fun a i z => W_n W768 (tg_232 a i z) rfl) (FA_f (tg_220 F750) (FA_f (tg_218 F738) (FA_f (tg_220 F695) (FA_f (tg_218 F683) (FA_f (tg_220 F146) (FA_f (tg_220 F92) (FA_f (tg_221 F77) (FA_f (tg_220 F65) q2))))))))))
                                        have j_786 := (WR_f (fun a i z => W_n W774 (by /-r77,5-/ omega) rfl) (WR_f (fun a i z => W_n W768 (by /-r77,4-/ omega) rfl) (WR_f (tg_222 F750) (WR_f (tg_219 F738) (WR_f (tg_222 F695) (WR_f (tg_219 F683) (WR_f (tg_222 F146) (WR_f (tg_222 F92) (WR_f (tg_223 F77) (WR_f (tg_222 F65) q3))))))))))
                                        exact h (0 : Int32) M775 hG776 F777 (by decide) (by decide) (by omega) (by omega) (by omega) j_785 j_786
                                      · refine to_an (pc := 22) rw_162_22 rfl (tt_gI (pc := 23) rw_162_23 (g_o hG751 rfl) (v := (M755.2.1 77 9)) rfl (to_in (pc := 26) rw_162_26 rfl (b_cle (pc := 27) rw_162_27 (A := (M755.2.1 77 9).toInt) (B := 4) rfl rfl (fun h787 => ?_) (fun h787 => ?_))))
                                        · refine to_c (pc := 38) rw_162_38 (x := (1 : Int32)) rfl rfl (to_go (pc := 39) rw_162_39 (s_r1 (pc := 43) rw_162_43 (A := 1) rfl (by decide) (b_ine_t (pc := 303) rw_170_303 (A := 1) rfl (by decide) (to_an (pc := 308) rw_170_308 rfl (tt_gI (pc := 309) rw_170_309 (g_o hG751 rfl) (v := (M755.2.1 77 9)) rfl (to_is (pc := 312) rw_170_312 (ls2 := [.ref 77, .int v85, .int (M70.2.1 77 9), .int v144, .int (1 : Int32), .int (0 : Int32), .int (M151.2.1 77 9), .int (M700.2.1 77 9), .int (M755.2.1 77 9)]) rfl rfl (to_an (pc := 314) rw_170_314 rfl (s_v (pc := 315) rw_170_315 (dp0 hd (by decide)) (ls0 := [.ref 77]) rfl (Nat.le_of_ble_eq_true rfl) (Nat.le_of_ble_eq_true rfl) rfl (to_rc rfl rfl rfl (g_o hG751 rfl)) rfl (C_156 hX (dp1 hd (by decide)) hG751 (by omega)  (fun M793 hG789 F788 p_790 p_791 p_792 => ?_))))))))))
                                          have F794 := FR.c F756 F788 tg_79
                                          have b_795 := g_b hG789 (a := 77) (i := 7) (lo := 0) (hi := 500) rfl rfl
                                          have c_796 : M793.2.1 77 6 = (M.2.1 77 6) := (F_n F788 (show ¬ (77 = 77 ∧ 7 ≤ 6 ∧ 6 ≤ 10) by decide) c_758)
                                          have t_797 : (M793.2.1 77 6).toInt = (M.2.1 77 6).toInt := congrArg Int32.toInt c_796
                                          have b_798 := g_b hG789 (a := 77) (i := 8) (lo := 0) (hi := 5) rfl rfl
                                          have c_799 : M793.2.1 77 15 = (M.2.1 77 15) := (F_n F788 (show ¬ (77 = 77 ∧ 7 ≤ 15 ∧ 15 ≤ 10) by decide) (F_n F750 (show ¬ (77 = 77 ∧ 7 ≤ 15 ∧ 15 ≤ 10) by decide) (F_n F738 (show ¬ (77 < 0) by decide) (F_n F695 (show ¬ (77 = 77 ∧ 7 ≤ 15 ∧ 15 ≤ 10) by decide) (F_n F683 (show ¬ (77 < 0) by decide) (F_n F146 (show ¬ (77 = 77 ∧ 7 ≤ 15 ∧ 15 ≤ 10) by decide) (F_n F92 (show ¬ (77 = 77 ∧ 7 ≤ 15 ∧ 15 ≤ 10) by decide) c_84)))))))
                                          have t_800 : (M793.2.1 77 15).toInt = (M.2.1 77 15).toInt := congrArg Int32.toInt c_799
                                          have j_801 := (FA_f (tg_220 F788) (FA_f (tg_220 F750) (FA_f (tg_218 F738) (FA_f (tg_220 F695) (FA_f (tg_218 F683) (FA_f (tg_220 F146) (FA_f (tg_220 F92) (FA_f (tg_221 F77) (FA_f (tg_220 F65) q2)))))))))
                                          have j_802 := (WR_f (tg_222 F788) (WR_f (tg_222 F750) (WR_f (tg_219 F738) (WR_f (tg_222 F695) (WR_f (tg_219 F683) (WR_f (tg_222 F146) (WR_f (tg_222 F92) (WR_f (tg_223 F77) (WR_f (tg_222 F65) q3)))))))))
                                          exact (T_170_0 hX hd q1 q2 q3 h (((0 : Int)).toNat + 1)) M793 v85 (M70.2.1 77 9) v144 (.int (1 : Int32)) (.int (0 : Int32)) (M151.2.1 77 9) (M700.2.1 77 9) (M755.2.1 77 9) hG789 F794 (by omega) (by omega) (by omega) (by omega) (by omega) (by omega) (by omega) (by omega) (by omega) (by omega) (by omega) (by omega) (by omega) (by omega) (by omega) j_801 j_802 (by omega)
                                        · refine to_an (pc := 30) rw_162_30 rfl (to_c (pc := 31) rw_162_31 (x := (2 : Int32)) rfl rfl (s_v (pc := 32) rw_162_32 (dp1 hd (by decide)) (ls0 := [.ref 77, .int (2 : Int32)]) rfl (Nat.le_of_ble_eq_true rfl) (Nat.le_of_ble_eq_true rfl) rfl (to_rc rfl rfl rfl (g_o hG751 rfl)) rfl (to_an (pc := 0) rw_152_0 rfl (to_in (pc := 1) rw_152_1 rfl (s_pI (pc := 2) rw_152_2 hG751 rfl (fun M804 W803 => ?_))))))
                                          have hG805 := g_wf hG751 W803 rfl rfl (by decide)
                                          have F806 := FR.w F756 W803 (show 77 = 77 ∧ (4 = 4 ∨ 4 = 5 ∨ 7 ≤ 4 ∧ 4 ≤ 10 ∨ 14 ≤ 4 ∧ 4 ≤ 16 ∨ 4 = 25) ∨ 80 ≤ 77 ∧ 77 ≤ 84 ∧ 8 ≤ 4 ∨ 85 ≤ 77 ∧ 77 ≤ 87 ∧ 12 ≤ 4 by decide)
                                          refine to_an (pc := 5) rw_152_5 rfl (to_an (pc := 6) rw_152_6 rfl ?_)
                                          have c_807 : M804.2.1 77 10 = (M755.2.1 77 10) := (W_n W803 (by decide) rfl)
                                          have b_808 := g_b hG751 (a := 77) (i := 10) (lo := 0) (hi := 500) rfl rfl
                                          refine tt_gI (pc := 7) rw_152_7 (g_o hG805 rfl) (v := (M755.2.1 77 10)) c_807 (s_pI (pc := 10) rw_152_10 hG805 rfl (fun M810 W809 => ?_))
                                          have hG811 := g_wf hG805 W809 rfl rfl (by decide)
                                          have F812 := FR.w F806 W809 (show 77 = 77 ∧ (5 = 4 ∨ 5 = 5 ∨ 7 ≤ 5 ∧ 5 ≤ 10 ∨ 14 ≤ 5 ∧ 5 ≤ 16 ∨ 5 = 25) ∨ 80 ≤ 77 ∧ 77 ≤ 84 ∧ 8 ≤ 5 ∨ 85 ≤ 77 ∧ 77 ≤ 87 ∧ 12 ≤ 5 by decide)
                                          refine to_c (pc := 13) rw_152_13 (x := (0 : Int32)) rfl rfl (s_r1 (pc := 14) rw_152_14 (A := 0) rfl (by decide) (b_ieq_t (pc := 35) rw_162_35 (A := 0) rfl (by decide) (to_c (pc := 42) rw_162_42 (x := (0 : Int32)) rfl rfl (s_r1 (pc := 43) rw_162_43 (A := 0) rfl (by decide) (b_ine_f (pc := 303) rw_170_303 (A := 0) rfl (by decide) (to_c (pc := 306) rw_170_306 (x := (0 : Int32)) rfl rfl (s_r1 (pc := 307) rw_170_307 (A := 0) rfl (by decide) ?_)))))))
                                          have k_813 : (0 : Int32).toInt = 0 := rfl
                                          have c_814 : M810.2.1 77 7 = (M755.2.1 77 7) := (W_n W809 (by decide) (W_n W803 (by decide) rfl))
                                          have t_815 : (M810.2.1 77 7).toInt = (M755.2.1 77 7).toInt := congrArg Int32.toInt c_814
                                          have c_816 : M810.2.1 77 6 = (M.2.1 77 6) := (W_n W809 (by decide) (W_n W803 (by decide) c_758))
                                          have t_817 : (M810.2.1 77 6).toInt = (M.2.1 77 6).toInt := congrArg Int32.toInt c_816
                                          have c_818 : M810.2.1 77 8 = (M755.2.1 77 8) := (W_n W809 (by decide) (W_n W803 (by decide) rfl))
                                          have t_819 : (M810.2.1 77 8).toInt = (M755.2.1 77 8).toInt := congrArg Int32.toInt c_818
                                          have j_820 := (FA_f (fun a i z => W_n W809 (tg_231 a i z) rfl) (FA_f (fun a i z => W_n W803 (tg_232 a i z) rfl) (FA_f (tg_220 F750) (FA_f (tg_218 F738) (FA_f (tg_220 F695) (FA_f (tg_218 F683) (FA_f (tg_220 F146) (FA_f (tg_220 F92) (FA_f (tg_221 F77) (FA_f (tg_220 F65) q2))))))))))
                                          have j_821 := (WR_f (fun a i z => W_n W809 (by /-r77,5-/ omega) rfl) (WR_f (fun a i z => W_n W803 (by /-r77,4-/ omega) rfl) (WR_f (tg_222 F750) (WR_f (tg_219 F738) (WR_f (tg_222 F695) (WR_f (tg_219 F683) (WR_f (tg_222 F146) (WR_f (tg_222 F92) (WR_f (tg_223 F77) (WR_f (tg_222 F65) q3))))))))))
                                          exact h (0 : Int32) M810 hG811 F812 (by decide) (by decide) (by omega) (by omega) (by omega) j_820 j_821
                                    · refine to_an (pc := 8) rw_162_8 rfl (to_c (pc := 9) rw_162_9 (x := (1 : Int32)) rfl rfl (s_v (pc := 10) rw_162_10 (dp1 hd (by decide)) (ls0 := [.ref 77, .int (1 : Int32)]) rfl (Nat.le_of_ble_eq_true rfl) (Nat.le_of_ble_eq_true rfl) rfl (to_rc rfl rfl rfl (g_o hG751 rfl)) rfl (to_an (pc := 0) rw_152_0 rfl (to_in (pc := 1) rw_152_1 rfl (s_pI (pc := 2) rw_152_2 hG751 rfl (fun M823 W822 => ?_))))))
                                      have hG824 := g_wf hG751 W822 rfl rfl (by decide)
                                      have F825 := FR.w F756 W822 (show 77 = 77 ∧ (4 = 4 ∨ 4 = 5 ∨ 7 ≤ 4 ∧ 4 ≤ 10 ∨ 14 ≤ 4 ∧ 4 ≤ 16 ∨ 4 = 25) ∨ 80 ≤ 77 ∧ 77 ≤ 84 ∧ 8 ≤ 4 ∨ 85 ≤ 77 ∧ 77 ≤ 87 ∧ 12 ≤ 4 by decide)
                                      refine to_an (pc := 5) rw_152_5 rfl (to_an (pc := 6) rw_152_6 rfl ?_)
                                      have c_826 : M823.2.1 77 10 = (M755.2.1 77 10) := (W_n W822 (by decide) rfl)
                                      have b_827 := g_b hG751 (a := 77) (i := 10) (lo := 0) (hi := 500) rfl rfl
                                      refine tt_gI (pc := 7) rw_152_7 (g_o hG824 rfl) (v := (M755.2.1 77 10)) c_826 (s_pI (pc := 10) rw_152_10 hG824 rfl (fun M829 W828 => ?_))
                                      have hG830 := g_wf hG824 W828 rfl rfl (by decide)
                                      have F831 := FR.w F825 W828 (show 77 = 77 ∧ (5 = 4 ∨ 5 = 5 ∨ 7 ≤ 5 ∧ 5 ≤ 10 ∨ 14 ≤ 5 ∧ 5 ≤ 16 ∨ 5 = 25) ∨ 80 ≤ 77 ∧ 77 ≤ 84 ∧ 8 ≤ 5 ∨ 85 ≤ 77 ∧ 77 ≤ 87 ∧ 12 ≤ 5 by decide)
                                      refine to_c (pc := 13) rw_152_13 (x := (0 : Int32)) rfl rfl (s_r1 (pc := 14) rw_152_14 (A := 0) rfl (by decide) (s_r1 (pc := 13) rw_162_13 (A := 0) rfl (by decide) (b_ine_f (pc := 303) rw_170_303 (A := 0) rfl (by decide) (to_c (pc := 306) rw_170_306 (x := (0 : Int32)) rfl rfl (s_r1 (pc := 307) rw_170_307 (A := 0) rfl (by decide) ?_)))))
                                      have k_832 : (0 : Int32).toInt = 0 := rfl
                                      have c_833 : M829.2.1 77 7 = (M755.2.1 77 7) := (W_n W828 (by decide) (W_n W822 (by decide) rfl))
                                      have t_834 : (M829.2.1 77 7).toInt = (M755.2.1 77 7).toInt := congrArg Int32.toInt c_833
                                      have c_835 : M829.2.1 77 6 = (M.2.1 77 6) := (W_n W828 (by decide) (W_n W822 (by decide) c_758))
                                      have t_836 : (M829.2.1 77 6).toInt = (M.2.1 77 6).toInt := congrArg Int32.toInt c_835
                                      have c_837 : M829.2.1 77 8 = (M755.2.1 77 8) := (W_n W828 (by decide) (W_n W822 (by decide) rfl))
                                      have t_838 : (M829.2.1 77 8).toInt = (M755.2.1 77 8).toInt := congrArg Int32.toInt c_837
                                      have j_839 := (FA_f (fun a i z => W_n W828 (tg_231 a i z) rfl) (FA_f (fun a i z => W_n W822 (tg_232 a i z) rfl) (FA_f (tg_220 F750) (FA_f (tg_218 F738) (FA_f (tg_220 F695) (FA_f (tg_218 F683) (FA_f (tg_220 F146) (FA_f (tg_220 F92) (FA_f (tg_221 F77) (FA_f (tg_220 F65) q2))))))))))
                                      have j_840 := (WR_f (fun a i z => W_n W828 (by /-r77,5-/ omega) rfl) (WR_f (fun a i z => W_n W822 (by /-r77,4-/ omega) rfl) (WR_f (tg_222 F750) (WR_f (tg_219 F738) (WR_f (tg_222 F695) (WR_f (tg_219 F683) (WR_f (tg_222 F146) (WR_f (tg_222 F92) (WR_f (tg_223 F77) (WR_f (tg_222 F65) q3))))))))))
                                      exact h (0 : Int32) M829 hG830 F831 (by decide) (by decide) (by omega) (by omega) (by omega) j_839 j_840
                                  · refine to_i (pc := 294) rw_170_294 rfl (to_go (pc := 296) rw_170_296 (s_v (pc := 300) rw_170_300 (dp0 hd (by decide)) (ls0 := [.ref 77, .int (1 : Int32), .int v763]) rfl (Nat.le_of_ble_eq_true rfl) (Nat.le_of_ble_eq_true rfl) rfl (to_rc rfl rfl rfl (g_o hG751 rfl)) rfl (to_an (pc := 0) rw_162_0 rfl (tt_gI (pc := 1) rw_162_1 (g_o hG751 rfl) (v := (M755.2.1 77 8)) rfl (to_c (pc := 4) rw_162_4 (x := (3 : Int32)) rfl rfl (b_ceq (pc := 5) rw_162_5 (A := (M755.2.1 77 8).toInt) (B := 3) rfl rfl (fun h841 => ?_) (fun h841 => ?_)))))))
                                    · refine to_an (pc := 14) rw_162_14 rfl (tt_gI (pc := 15) rw_162_15 (g_o hG751 rfl) (v := (M755.2.1 77 9)) rfl (to_in (pc := 18) rw_162_18 rfl (b_clt (pc := 19) rw_162_19 (A := (M755.2.1 77 9).toInt) (B := 1) rfl rfl (fun h842 => ?_) (fun h842 => ?_))))
                                      · refine to_an (pc := 30) rw_162_30 rfl (to_c (pc := 31) rw_162_31 (x := (2 : Int32)) rfl rfl (s_v (pc := 32) rw_162_32 (dp1 hd (by decide)) (ls0 := [.ref 77, .int (2 : Int32)]) rfl (Nat.le_of_ble_eq_true rfl) (Nat.le_of_ble_eq_true rfl) rfl (to_rc rfl rfl rfl (g_o hG751 rfl)) rfl (to_an (pc := 0) rw_152_0 rfl (to_in (pc := 1) rw_152_1 rfl (s_pI (pc := 2) rw_152_2 hG751 rfl (fun M844 W843 => ?_))))))
                                        have hG845 := g_wf hG751 W843 rfl rfl (by decide)
                                        have F846 := FR.w F756 W843 (show 77 = 77 ∧ (4 = 4 ∨ 4 = 5 ∨ 7 ≤ 4 ∧ 4 ≤ 10 ∨ 14 ≤ 4 ∧ 4 ≤ 16 ∨ 4 = 25) ∨ 80 ≤ 77 ∧ 77 ≤ 84 ∧ 8 ≤ 4 ∨ 85 ≤ 77 ∧ 77 ≤ 87 ∧ 12 ≤ 4 by decide)
                                        refine to_an (pc := 5) rw_152_5 rfl (to_an (pc := 6) rw_152_6 rfl ?_)
                                        have c_847 : M844.2.1 77 10 = (M755.2.1 77 10) := (W_n W843 (by decide) rfl)
                                        have b_848 := g_b hG751 (a := 77) (i := 10) (lo := 0) (hi := 500) rfl rfl
                                        refine tt_gI (pc := 7) rw_152_7 (g_o hG845 rfl) (v := (M755.2.1 77 10)) c_847 (s_pI (pc := 10) rw_152_10 hG845 rfl (fun M850 W849 => ?_))
                                        have hG851 := g_wf hG845 W849 rfl rfl (by decide)
                                        have F852 := FR.w F846 W849 (show 77 = 77 ∧ (5 = 4 ∨ 5 = 5 ∨ 7 ≤ 5 ∧ 5 ≤ 10 ∨ 14 ≤ 5 ∧ 5 ≤ 16 ∨ 5 = 25) ∨ 80 ≤ 77 ∧ 77 ≤ 84 ∧ 8 ≤ 5 ∨ 85 ≤ 77 ∧ 77 ≤ 87 ∧ 12 ≤ 5 by decide)
                                        refine to_c (pc := 13) rw_152_13 (x := (0 : Int32)) rfl rfl (s_r1 (pc := 14) rw_152_14 (A := 0) rfl (by decide) (b_ieq_t (pc := 35) rw_162_35 (A := 0) rfl (by decide) (to_c (pc := 42) rw_162_42 (x := (0 : Int32)) rfl rfl (s_r1 (pc := 43) rw_162_43 (A := 0) rfl (by decide) (b_ine_f (pc := 303) rw_170_303 (A := 0) rfl (by decide) (to_c (pc := 306) rw_170_306 (x := (0 : Int32)) rfl rfl (s_r1 (pc := 307) rw_170_307 (A := 0) rfl (by decide) ?_)))))))
                                        have k_853 : (0 : Int32).toInt = 0 := rfl
                                        have c_854 : M850.2.1 77 7 = (M755.2.1 77 7) := (W_n W849 (by decide) (W_n W843 (by decide) rfl))
                                        have t_855 : (M850.2.1 77 7).toInt = (M755.2.1 77 7).toInt := congrArg Int32.toInt c_854
                                        have c_856 : M850.2.1 77 6 = (M.2.1 77 6) := (W_n W849 (by decide) (W_n W843 (by decide) c_758))
                                        have t_857 : (M850.2.1 77 6).toInt = (M.2.1 77 6).toInt := congrArg Int32.toInt c_856
                                        have c_858 : M850.2.1 77 8 = (M755.2.1 77 8) := (W_n W849 (by decide) (W_n W843 (by decide) rfl))
                                        have t_859 : (M850.2.1 77 8).toInt = (M755.2.1 77 8).toInt := congrArg Int32.toInt c_858
                                        have j_860 := (FA_f (fun a i z => W_n W849 (tg_231 a i z) rfl) (FA_f (fun a i z => W_n W843 (tg_232 a i z) rfl) (FA_f (tg_220 F750) (FA_f (tg_218 F738) (FA_f (tg_220 F695) (FA_f (tg_218 F683) (FA_f (tg_220 F146) (FA_f (tg_220 F92) (FA_f (tg_221 F77) (FA_f (tg_220 F65) q2))))))))))
                                        have j_861 := (WR_f (fun a i z => W_n W849 (by /-r77,5-/ omega) rfl) (WR_f (fun a i z => W_n W843 (by /-r77,4-/ omega) rfl) (WR_f (tg_222 F750) (WR_f (tg_219 F738) (WR_f (tg_222 F695) (WR_f (tg_219 F683) (WR_f (tg_222 F146) (WR_f (tg_222 F92) (WR_f (tg_223 F77) (WR_f (tg_222 F65) q3))))))))))
                                        exact h (0 : Int32) M850 hG851 F852 (by decide) (by decide) (by omega) (by omega) (by omega) j_860 j_861
                                      · refine to_an (pc := 22) rw_162_22 rfl (tt_gI (pc := 23) rw_162_23 (g_o hG751 rfl) (v := (M755.2.1 77 9)) rfl (to_in (pc := 26) rw_162_26 rfl (b_cle (pc := 27) rw_162_27 (A := (M755.2.1 77 9).toInt) (B := v763.toInt) rfl rfl (fun h862 => ?_) (fun h862 => ?_))))
                                        · refine to_c (pc := 38) rw_162_38 (x := (1 : Int32)) rfl rfl (to_go (pc := 39) rw_162_39 (s_r1 (pc := 43) rw_162_43 (A := 1) rfl (by decide) (b_ine_t (pc := 303) rw_170_303 (A := 1) rfl (by decide) (to_an (pc := 308) rw_170_308 rfl (tt_gI (pc := 309) rw_170_309 (g_o hG751 rfl) (v := (M755.2.1 77 9)) rfl (to_is (pc := 312) rw_170_312 (ls2 := [.ref 77, .int v85, .int (M70.2.1 77 9), .int v144, .int (1 : Int32), .int (0 : Int32), .int (M151.2.1 77 9), .int (M700.2.1 77 9), .int (M755.2.1 77 9)]) rfl rfl (to_an (pc := 314) rw_170_314 rfl (s_v (pc := 315) rw_170_315 (dp0 hd (by decide)) (ls0 := [.ref 77]) rfl (Nat.le_of_ble_eq_true rfl) (Nat.le_of_ble_eq_true rfl) rfl (to_rc rfl rfl rfl (g_o hG751 rfl)) rfl (C_156 hX (dp1 hd (by decide)) hG751 (by omega)  (fun M868 hG864 F863 p_865 p_866 p_867 => ?_))))))))))
                                          have F869 := FR.c F756 F863 tg_79
                                          have b_870 := g_b hG864 (a := 77) (i := 7) (lo := 0) (hi := 500) rfl rfl
                                          have c_871 : M868.2.1 77 6 = (M.2.1 77 6) := (F_n F863 (show ¬ (77 = 77 ∧ 7 ≤ 6 ∧ 6 ≤ 10) by decide) c_758)
                                          have t_872 : (M868.2.1 77 6).toInt = (M.2.1 77 6).toInt := congrArg Int32.toInt c_871
                                          have b_873 := g_b hG864 (a := 77) (i := 8) (lo := 0) (hi := 5) rfl rfl
                                          have c_874 : M868.2.1 77 15 = (M.2.1 77 15) := (F_n F863 (show ¬ (77 = 77 ∧ 7 ≤ 15 ∧ 15 ≤ 10) by decide) (F_n F750 (show ¬ (77 = 77 ∧ 7 ≤ 15 ∧ 15 ≤ 10) by decide) (F_n F738 (show ¬ (77 < 0) by decide) (F_n F695 (show ¬ (77 = 77 ∧ 7 ≤ 15 ∧ 15 ≤ 10) by decide) (F_n F683 (show ¬ (77 < 0) by decide) (F_n F146 (show ¬ (77 = 77 ∧ 7 ≤ 15 ∧ 15 ≤ 10) by decide) (F_n F92 (show ¬ (77 = 77 ∧ 7 ≤ 15 ∧ 15 ≤ 10) by decide) c_84)))))))
                                          have t_875 : (M868.2.1 77 15).toInt = (M.2.1 77 15).toInt := congrArg Int32.toInt c_874
                                          have j_876 := (FA_f (tg_220 F863) (FA_f (tg_220 F750) (FA_f (tg_218 F738) (FA_f (tg_220 F695) (FA_f (tg_218 F683) (FA_f (tg_220 F146) (FA_f (tg_220 F92) (FA_f (tg_221 F77) (FA_f (tg_220 F65) q2)))))))))
                                          have j_877 := (WR_f (tg_222 F863) (WR_f (tg_222 F750) (WR_f (tg_219 F738) (WR_f (tg_222 F695) (WR_f (tg_219 F683) (WR_f (tg_222 F146) (WR_f (tg_222 F92) (WR_f (tg_223 F77) (WR_f (tg_222 F65) q3)))))))))
                                          exact (T_170_0 hX hd q1 q2 q3 h (((0 : Int)).toNat + 1)) M868 v85 (M70.2.1 77 9) v144 (.int (1 : Int32)) (.int (0 : Int32)) (M151.2.1 77 9) (M700.2.1 77 9) (M755.2.1 77 9) hG864 F869 (by omega) (by omega) (by omega) (by omega) (by omega) (by omega) (by omega) (by omega) (by omega) (by omega) (by omega) (by omega) (by omega) (by omega) (by omega) j_876 j_877 (by omega)
                                        · refine to_an (pc := 30) rw_162_30 rfl (to_c (pc := 31) rw_162_31 (x := (2 : Int32)) rfl rfl (s_v (pc := 32) rw_162_32 (dp1 hd (by decide)) (ls0 := [.ref 77, .int (2 : Int32)]) rfl (Nat.le_of_ble_eq_true rfl) (Nat.le_of_ble_eq_true rfl) rfl (to_rc rfl rfl rfl (g_o hG751 rfl)) rfl (to_an (pc := 0) rw_152_0 rfl (to_in (pc := 1) rw_152_1 rfl (s_pI (pc := 2) rw_152_2 hG751 rfl (fun M879 W878 => ?_))))))
                                          have hG880 := g_wf hG751 W878 rfl rfl (by decide)
                                          have F881 := FR.w F756 W878 (show 77 = 77 ∧ (4 = 4 ∨ 4 = 5 ∨ 7 ≤ 4 ∧ 4 ≤ 10 ∨ 14 ≤ 4 ∧ 4 ≤ 16 ∨ 4 = 25) ∨ 80 ≤ 77 ∧ 77 ≤ 84 ∧ 8 ≤ 4 ∨ 85 ≤ 77 ∧ 77 ≤ 87 ∧ 12 ≤ 4 by decide)
                                          refine to_an (pc := 5) rw_152_5 rfl (to_an (pc := 6) rw_152_6 rfl ?_)
                                          have c_882 : M879.2.1 77 10 = (M755.2.1 77 10) := (W_n W878 (by decide) rfl)
                                          have b_883 := g_b hG751 (a := 77) (i := 10) (lo := 0) (hi := 500) rfl rfl
                                          refine tt_gI (pc := 7) rw_152_7 (g_o hG880 rfl) (v := (M755.2.1 77 10)) c_882 (s_pI (pc := 10) rw_152_10 hG880 rfl (fun M885 W884 => ?_))
                                          have hG886 := g_wf hG880 W884 rfl rfl (by decide)
                                          have F887 := FR.w F881 W884 (show 77 = 77 ∧ (5 = 4 ∨ 5 = 5 ∨ 7 ≤ 5 ∧ 5 ≤ 10 ∨ 14 ≤ 5 ∧ 5 ≤ 16 ∨ 5 = 25) ∨ 80 ≤ 77 ∧ 77 ≤ 84 ∧ 8 ≤ 5 ∨ 85 ≤ 77 ∧ 77 ≤ 87 ∧ 12 ≤ 5 by decide)
                                          refine to_c (pc := 13) rw_152_13 (x := (0 : Int32)) rfl rfl (s_r1 (pc := 14) rw_152_14 (A := 0) rfl (by decide) (b_ieq_t (pc := 35) rw_162_35 (A := 0) rfl (by decide) (to_c (pc := 42) rw_162_42 (x := (0 : Int32)) rfl rfl (s_r1 (pc := 43) rw_162_43 (A := 0) rfl (by decide) (b_ine_f (pc := 303) rw_170_303 (A := 0) rfl (by decide) (to_c (pc := 306) rw_170_306 (x := (0 : Int32)) rfl rfl (s_r1 (pc := 307) rw_170_307 (A := 0) rfl (by decide) ?_)))))))
                                          have k_888 : (0 : Int32).toInt = 0 := rfl
                                          have c_889 : M885.2.1 77 7 = (M755.2.1 77 7) := (W_n W884 (by decide) (W_n W878 (by decide) rfl))
                                          have t_890 : (M885.2.1 77 7).toInt = (M755.2.1 77 7).toInt := congrArg Int32.toInt c_889
                                          have c_891 : M885.2.1 77 6 = (M.2.1 77 6) := (W_n W884 (by decide) (W_n W878 (by decide) c_758))
                                          have t_892 : (M885.2.1 77 6).toInt = (M.2.1 77 6).toInt := congrArg Int32.toInt c_891
                                          have c_893 : M885.2.1 77 8 = (M755.2.1 77 8) := (W_n W884 (by decide) (W_n W878 (by decide) rfl))
                                          have t_894 : (M885.2.1 77 8).toInt = (M755.2.1 77 8).toInt := congrArg Int32.toInt c_893
                                          have j_895 := (FA_f (fun a i z => W_n W884 (tg_231 a i z) rfl) (FA_f (fun a i z => W_n W878 (tg_232 a i z) rfl) (FA_f (tg_220 F750) (FA_f (tg_218 F738) (FA_f (tg_220 F695) (FA_f (tg_218 F683) (FA_f (tg_220 F146) (FA_f (tg_220 F92) (FA_f (tg_221 F77) (FA_f (tg_220 F65) q2))))))))))
                                          have j_896 := (WR_f (fun a i z => W_n W884 (by /-r77,5-/ omega) rfl) (WR_f (fun a i z => W_n W878 (by /-r77,4-/ omega) rfl) (WR_f (tg_222 F750) (WR_f (tg_219 F738) (WR_f (tg_222 F695) (WR_f (tg_219 F683) (WR_f (tg_222 F146) (WR_f (tg_222 F92) (WR_f (tg_223 F77) (WR_f (tg_222 F65) q3))))))))))
                                          exact h (0 : Int32) M885 hG886 F887 (by decide) (by decide) (by omega) (by omega) (by omega) j_895 j_896
                                    · refine to_an (pc := 8) rw_162_8 rfl (to_c (pc := 9) rw_162_9 (x := (1 : Int32)) rfl rfl (s_v (pc := 10) rw_162_10 (dp1 hd (by decide)) (ls0 := [.ref 77, .int (1 : Int32)]) rfl (Nat.le_of_ble_eq_true rfl) (Nat.le_of_ble_eq_true rfl) rfl (to_rc rfl rfl rfl (g_o hG751 rfl)) rfl (to_an (pc := 0) rw_152_0 rfl (to_in (pc := 1) rw_152_1 rfl (s_pI (pc := 2) rw_152_2 hG751 rfl (fun M898 W897 => ?_))))))
                                      have hG899 := g_wf hG751 W897 rfl rfl (by decide)
                                      have F900 := FR.w F756 W897 (show 77 = 77 ∧ (4 = 4 ∨ 4 = 5 ∨ 7 ≤ 4 ∧ 4 ≤ 10 ∨ 14 ≤ 4 ∧ 4 ≤ 16 ∨ 4 = 25) ∨ 80 ≤ 77 ∧ 77 ≤ 84 ∧ 8 ≤ 4 ∨ 85 ≤ 77 ∧ 77 ≤ 87 ∧ 12 ≤ 4 by decide)
                                      refine to_an (pc := 5) rw_152_5 rfl (to_an (pc := 6) rw_152_6 rfl ?_)
                                      have c_901 : M898.2.1 77 10 = (M755.2.1 77 10) := (W_n W897 (by decide) rfl)
                                      have b_902 := g_b hG751 (a := 77) (i := 10) (lo := 0) (hi := 500) rfl rfl
                                      refine tt_gI (pc := 7) rw_152_7 (g_o hG899 rfl) (v := (M755.2.1 77 10)) c_901 (s_pI (pc := 10) rw_152_10 hG899 rfl (fun M904 W903 => ?_))
                                      have hG905 := g_wf hG899 W903 rfl rfl (by decide)
                                      have F906 := FR.w F900 W903 (show 77 = 77 ∧ (5 = 4 ∨ 5 = 5 ∨ 7 ≤ 5 ∧ 5 ≤ 10 ∨ 14 ≤ 5 ∧ 5 ≤ 16 ∨ 5 = 25) ∨ 80 ≤ 77 ∧ 77 ≤ 84 ∧ 8 ≤ 5 ∨ 85 ≤ 77 ∧ 77 ≤ 87 ∧ 12 ≤ 5 by decide)
                                      refine to_c (pc := 13) rw_152_13 (x := (0 : Int32)) rfl rfl (s_r1 (pc := 14) rw_152_14 (A := 0) rfl (by decide) (s_r1 (pc := 13) rw_162_13 (A := 0) rfl (by decide) (b_ine_f (pc := 303) rw_170_303 (A := 0) rfl (by decide) (to_c (pc := 306) rw_170_306 (x := (0 : Int32)) rfl rfl (s_r1 (pc := 307) rw_170_307 (A := 0) rfl (by decide) ?_)))))
                                      have k_907 : (0 : Int32).toInt = 0 := rfl
                                      have c_908 : M904.2.1 77 7 = (M755.2.1 77 7) := (W_n W903 (by decide) (W_n W897 (by decide) rfl))
                                      have t_909 : (M904.2.1 77 7).toInt = (M755.2.1 77 7).toInt := congrArg Int32.toInt c_908
                                      have c_910 : M904.2.1 77 6 = (M.2.1 77 6) := (W_n W903 (by decide) (W_n W897 (by decide) c_758))
                                      have t_911 : (M904.2.1 77 6).toInt = (M.2.1 77 6).toInt := congrArg Int32.toInt c_910
                                      have c_912 : M904.2.1 77 8 = (M755.2.1 77 8) := (W_n W903 (by decide) (W_n W897 (by decide) rfl))
                                      have t_913 : (M904.2.1 77 8).toInt = (M755.2.1 77 8).toInt := congrArg Int32.toInt c_912
                                      have j_914 := (FA_f (fun a i z => W_n W903 (tg_231 a i z) rfl) (FA_f (fun a i z => W_n W897 (tg_232 a i z) rfl) (FA_f (tg_220 F750) (FA_f (tg_218 F738) (FA_f (tg_220 F695) (FA_f (tg_218 F683) (FA_f (tg_220 F146) (FA_f (tg_220 F92) (FA_f (tg_221 F77) (FA_f (tg_220 F65) q2))))))))))
                                      have j_915 := (WR_f (fun a i z => W_n W903 (by /-r77,5-/ omega) rfl) (WR_f (fun a i z => W_n W897 (by /-r77,4-/ omega) rfl) (WR_f (tg_222 F750) (WR_f (tg_219 F738) (WR_f (tg_222 F695) (WR_f (tg_219 F683) (WR_f (tg_222 F146) (WR_f (tg_222 F92) (WR_f (tg_223 F77) (WR_f (tg_222 F65) q3))))))))))
                                      exact h (0 : Int32) M904 hG905 F906 (by decide) (by decide) (by omega) (by omega) (by omega) j_914 j_915
                                · refine to_an (pc := 262) rw_170_262 rfl (to_c (pc := 263) rw_170_263 (x := (3 : Int32)) rfl rfl (s_v (pc := 264) rw_170_264 (dp0 hd (by decide)) (ls0 := [.ref 77, .int (3 : Int32)]) rfl (Nat.le_of_ble_eq_true rfl) (Nat.le_of_ble_eq_true rfl) rfl (to_rc rfl rfl rfl (g_o hG739 rfl)) rfl (to_an (pc := 0) rw_152_0 rfl (to_in (pc := 1) rw_152_1 rfl (s_pI (pc := 2) rw_152_2 hG739 rfl (fun M917 W916 => ?_))))))
                                  have hG918 := g_wf hG739 W916 rfl rfl (by decide)
                                  have F919 := FR.w F741 W916 (show 77 = 77 ∧ (4 = 4 ∨ 4 = 5 ∨ 7 ≤ 4 ∧ 4 ≤ 10 ∨ 14 ≤ 4 ∧ 4 ≤ 16 ∨ 4 = 25) ∨ 80 ≤ 77 ∧ 77 ≤ 84 ∧ 8 ≤ 4 ∨ 85 ≤ 77 ∧ 77 ≤ 87 ∧ 12 ≤ 4 by decide)
                                  refine to_an (pc := 5) rw_152_5 rfl (to_an (pc := 6) rw_152_6 rfl ?_)
                                  have c_920 : M917.2.1 77 10 = (M700.2.1 77 10) := (W_n W916 (by decide) (F_n F738 (show ¬ (77 < 0) by decide) rfl))
                                  have b_921 := g_b hG696 (a := 77) (i := 10) (lo := 0) (hi := 500) rfl rfl
                                  refine tt_gI (pc := 7) rw_152_7 (g_o hG918 rfl) (v := (M700.2.1 77 10)) c_920 (s_pI (pc := 10) rw_152_10 hG918 rfl (fun M923 W922 => ?_))
                                  have hG924 := g_wf hG918 W922 rfl rfl (by decide)
                                  have F925 := FR.w F919 W922 (show 77 = 77 ∧ (5 = 4 ∨ 5 = 5 ∨ 7 ≤ 5 ∧ 5 ≤ 10 ∨ 14 ≤ 5 ∧ 5 ≤ 16 ∨ 5 = 25) ∨ 80 ≤ 77 ∧ 77 ≤ 84 ∧ 8 ≤ 5 ∨ 85 ≤ 77 ∧ 77 ≤ 87 ∧ 12 ≤ 5 by decide)
                                  refine to_c (pc := 13) rw_152_13 (x := (0 : Int32)) rfl rfl (s_r1 (pc := 14) rw_152_14 (A := 0) rfl (by decide) (s_r1 (pc := 267) rw_170_267 (A := 0) rfl (by decide) ?_))
                                  have k_926 : (0 : Int32).toInt = 0 := rfl
                                  have c_927 : M923.2.1 77 7 = (M700.2.1 77 7) := (W_n W922 (by decide) (W_n W916 (by decide) (F_n F738 (show ¬ (77 < 0) by decide) rfl)))
                                  have t_928 : (M923.2.1 77 7).toInt = (M700.2.1 77 7).toInt := congrArg Int32.toInt c_927
                                  have c_929 : M923.2.1 77 6 = (M.2.1 77 6) := (W_n W922 (by decide) (W_n W916 (by decide) (F_n F738 (show ¬ (77 < 0) by decide) c_703)))
                                  have t_930 : (M923.2.1 77 6).toInt = (M.2.1 77 6).toInt := congrArg Int32.toInt c_929
                                  have c_931 : M923.2.1 77 8 = (M700.2.1 77 8) := (W_n W922 (by decide) (W_n W916 (by decide) (F_n F738 (show ¬ (77 < 0) by decide) rfl)))
                                  have t_932 : (M923.2.1 77 8).toInt = (M700.2.1 77 8).toInt := congrArg Int32.toInt c_931
                                  have j_933 := (FA_f (fun a i z => W_n W922 (tg_231 a i z) rfl) (FA_f (fun a i z => W_n W916 (tg_232 a i z) rfl) (FA_f (tg_218 F738) (FA_f (tg_220 F695) (FA_f (tg_218 F683) (FA_f (tg_220 F146) (FA_f (tg_220 F92) (FA_f (tg_221 F77) (FA_f (tg_220 F65) q2)))))))))
                                  have j_934 := (WR_f (fun a i z => W_n W922 (by /-r77,5-/ omega) rfl) (WR_f (fun a i z => W_n W916 (by /-r77,4-/ omega) rfl) (WR_f (tg_219 F738) (WR_f (tg_222 F695) (WR_f (tg_219 F683) (WR_f (tg_222 F146) (WR_f (tg_222 F92) (WR_f (tg_223 F77) (WR_f (tg_222 F65) q3)))))))))
                                  exact h (0 : Int32) M923 hG924 F925 (by decide) (by decide) (by omega) (by omega) (by omega) j_933 j_934
                              · refine to_an (pc := 239) rw_170_239 rfl (to_c (pc := 240) rw_170_240 (x := (2 : Int32)) rfl rfl (s_v (pc := 241) rw_170_241 (dp0 hd (by decide)) (ls0 := [.ref 77, .int (2 : Int32)]) rfl (Nat.le_of_ble_eq_true rfl) (Nat.le_of_ble_eq_true rfl) rfl (to_rc rfl rfl rfl (g_o hG696 rfl)) rfl (to_an (pc := 0) rw_152_0 rfl (to_in (pc := 1) rw_152_1 rfl (s_pI (pc := 2) rw_152_2 hG696 rfl (fun M936 W935 => ?_))))))
                                have hG937 := g_wf hG696 W935 rfl rfl (by decide)
                                have F938 := FR.w F701 W935 (show 77 = 77 ∧ (4 = 4 ∨ 4 = 5 ∨ 7 ≤ 4 ∧ 4 ≤ 10 ∨ 14 ≤ 4 ∧ 4 ≤ 16 ∨ 4 = 25) ∨ 80 ≤ 77 ∧ 77 ≤ 84 ∧ 8 ≤ 4 ∨ 85 ≤ 77 ∧ 77 ≤ 87 ∧ 12 ≤ 4 by decide)
                                refine to_an (pc := 5) rw_152_5 rfl (to_an (pc := 6) rw_152_6 rfl ?_)
                                have c_939 : M936.2.1 77 10 = (M700.2.1 77 10) := (W_n W935 (by decide) rfl)
                                have b_940 := g_b hG696 (a := 77) (i := 10) (lo := 0) (hi := 500) rfl rfl
                                refine tt_gI (pc := 7) rw_152_7 (g_o hG937 rfl) (v := (M700.2.1 77 10)) c_939 (s_pI (pc := 10) rw_152_10 hG937 rfl (fun M942 W941 => ?_))
                                have hG943 := g_wf hG937 W941 rfl rfl (by decide)
                                have F944 := FR.w F938 W941 (show 77 = 77 ∧ (5 = 4 ∨ 5 = 5 ∨ 7 ≤ 5 ∧ 5 ≤ 10 ∨ 14 ≤ 5 ∧ 5 ≤ 16 ∨ 5 = 25) ∨ 80 ≤ 77 ∧ 77 ≤ 84 ∧ 8 ≤ 5 ∨ 85 ≤ 77 ∧ 77 ≤ 87 ∧ 12 ≤ 5 by decide)
                                refine to_c (pc := 13) rw_152_13 (x := (0 : Int32)) rfl rfl (s_r1 (pc := 14) rw_152_14 (A := 0) rfl (by decide) (s_r1 (pc := 244) rw_170_244 (A := 0) rfl (by decide) ?_))
                                have k_945 : (0 : Int32).toInt = 0 := rfl
                                have c_946 : M942.2.1 77 7 = (M700.2.1 77 7) := (W_n W941 (by decide) (W_n W935 (by decide) rfl))
                                have t_947 : (M942.2.1 77 7).toInt = (M700.2.1 77 7).toInt := congrArg Int32.toInt c_946
                                have c_948 : M942.2.1 77 6 = (M.2.1 77 6) := (W_n W941 (by decide) (W_n W935 (by decide) c_703))
                                have t_949 : (M942.2.1 77 6).toInt = (M.2.1 77 6).toInt := congrArg Int32.toInt c_948
                                have c_950 : M942.2.1 77 8 = (M700.2.1 77 8) := (W_n W941 (by decide) (W_n W935 (by decide) rfl))
                                have t_951 : (M942.2.1 77 8).toInt = (M700.2.1 77 8).toInt := congrArg Int32.toInt c_950
                                have j_952 := (FA_f (fun a i z => W_n W941 (tg_231 a i z) rfl) (FA_f (fun a i z => W_n W935 (tg_232 a i z) rfl) (FA_f (tg_220 F695) (FA_f (tg_218 F683) (FA_f (tg_220 F146) (FA_f (tg_220 F92) (FA_f (tg_221 F77) (FA_f (tg_220 F65) q2))))))))
                                have j_953 := (WR_f (fun a i z => W_n W941 (by /-r77,5-/ omega) rfl) (WR_f (fun a i z => W_n W935 (by /-r77,4-/ omega) rfl) (WR_f (tg_222 F695) (WR_f (tg_219 F683) (WR_f (tg_222 F146) (WR_f (tg_222 F92) (WR_f (tg_223 F77) (WR_f (tg_222 F65) q3))))))))
                                exact h (0 : Int32) M942 hG943 F944 (by decide) (by decide) (by omega) (by omega) (by omega) j_952 j_953
                            · refine to_an (pc := 30) rw_162_30 rfl (to_c (pc := 31) rw_162_31 (x := (2 : Int32)) rfl rfl (s_v (pc := 32) rw_162_32 (dp1 hd (by decide)) (ls0 := [.ref 77, .int (2 : Int32)]) rfl (Nat.le_of_ble_eq_true rfl) (Nat.le_of_ble_eq_true rfl) rfl (to_rc rfl rfl rfl (g_o hG696 rfl)) rfl (to_an (pc := 0) rw_152_0 rfl (to_in (pc := 1) rw_152_1 rfl (s_pI (pc := 2) rw_152_2 hG696 rfl (fun M955 W954 => ?_))))))
                              have hG956 := g_wf hG696 W954 rfl rfl (by decide)
                              have F957 := FR.w F701 W954 (show 77 = 77 ∧ (4 = 4 ∨ 4 = 5 ∨ 7 ≤ 4 ∧ 4 ≤ 10 ∨ 14 ≤ 4 ∧ 4 ≤ 16 ∨ 4 = 25) ∨ 80 ≤ 77 ∧ 77 ≤ 84 ∧ 8 ≤ 4 ∨ 85 ≤ 77 ∧ 77 ≤ 87 ∧ 12 ≤ 4 by decide)
                              refine to_an (pc := 5) rw_152_5 rfl (to_an (pc := 6) rw_152_6 rfl ?_)
                              have c_958 : M955.2.1 77 10 = (M700.2.1 77 10) := (W_n W954 (by decide) rfl)
                              have b_959 := g_b hG696 (a := 77) (i := 10) (lo := 0) (hi := 500) rfl rfl
                              refine tt_gI (pc := 7) rw_152_7 (g_o hG956 rfl) (v := (M700.2.1 77 10)) c_958 (s_pI (pc := 10) rw_152_10 hG956 rfl (fun M961 W960 => ?_))
                              have hG962 := g_wf hG956 W960 rfl rfl (by decide)
                              have F963 := FR.w F957 W960 (show 77 = 77 ∧ (5 = 4 ∨ 5 = 5 ∨ 7 ≤ 5 ∧ 5 ≤ 10 ∨ 14 ≤ 5 ∧ 5 ≤ 16 ∨ 5 = 25) ∨ 80 ≤ 77 ∧ 77 ≤ 84 ∧ 8 ≤ 5 ∨ 85 ≤ 77 ∧ 77 ≤ 87 ∧ 12 ≤ 5 by decide)
                              refine to_c (pc := 13) rw_152_13 (x := (0 : Int32)) rfl rfl (s_r1 (pc := 14) rw_152_14 (A := 0) rfl (by decide) (b_ieq_t (pc := 35) rw_162_35 (A := 0) rfl (by decide) (to_c (pc := 42) rw_162_42 (x := (0 : Int32)) rfl rfl (s_r1 (pc := 43) rw_162_43 (A := 0) rfl (by decide) (b_ine_f (pc := 218) rw_170_218 (A := 0) rfl (by decide) (to_c (pc := 221) rw_170_221 (x := (0 : Int32)) rfl rfl (s_r1 (pc := 222) rw_170_222 (A := 0) rfl (by decide) ?_)))))))
                              have k_964 : (0 : Int32).toInt = 0 := rfl
                              have c_965 : M961.2.1 77 7 = (M700.2.1 77 7) := (W_n W960 (by decide) (W_n W954 (by decide) rfl))
                              have t_966 : (M961.2.1 77 7).toInt = (M700.2.1 77 7).toInt := congrArg Int32.toInt c_965
                              have c_967 : M961.2.1 77 6 = (M.2.1 77 6) := (W_n W960 (by decide) (W_n W954 (by decide) c_703))
                              have t_968 : (M961.2.1 77 6).toInt = (M.2.1 77 6).toInt := congrArg Int32.toInt c_967
                              have c_969 : M961.2.1 77 8 = (M700.2.1 77 8) := (W_n W960 (by decide) (W_n W954 (by decide) rfl))
                              have t_970 : (M961.2.1 77 8).toInt = (M700.2.1 77 8).toInt := congrArg Int32.toInt c_969
                              have j_971 := (FA_f (fun a i z => W_n W960 (tg_231 a i z) rfl) (FA_f (fun a i z => W_n W954 (tg_232 a i z) rfl) (FA_f (tg_220 F695) (FA_f (tg_218 F683) (FA_f (tg_220 F146) (FA_f (tg_220 F92) (FA_f (tg_221 F77) (FA_f (tg_220 F65) q2))))))))
                              have j_972 := (WR_f (fun a i z => W_n W960 (by /-r77,5-/ omega) rfl) (WR_f (fun a i z => W_n W954 (by /-r77,4-/ omega) rfl) (WR_f (tg_222 F695) (WR_f (tg_219 F683) (WR_f (tg_222 F146) (WR_f (tg_222 F92) (WR_f (tg_223 F77) (WR_f (tg_222 F65) q3))))))))
                              exact h (0 : Int32) M961 hG962 F963 (by decide) (by decide) (by omega) (by omega) (by omega) j_971 j_972
                        · refine to_an (pc := 8) rw_162_8 rfl (to_c (pc := 9) rw_162_9 (x := (1 : Int32)) rfl rfl (s_v (pc := 10) rw_162_10 (dp1 hd (by decide)) (ls0 := [.ref 77, .int (1 : Int32)]) rfl (Nat.le_of_ble_eq_true rfl) (Nat.le_of_ble_eq_true rfl) rfl (to_rc rfl rfl rfl (g_o hG696 rfl)) rfl (to_an (pc := 0) rw_152_0 rfl (to_in (pc := 1) rw_152_1 rfl (s_pI (pc := 2) rw_152_2 hG696 rfl (fun M974 W973 => ?_))))))
                          have hG975 := g_wf hG696 W973 rfl rfl (by decide)
                          have F976 := FR.w F701 W973 (show 77 = 77 ∧ (4 = 4 ∨ 4 = 5 ∨ 7 ≤ 4 ∧ 4 ≤ 10 ∨ 14 ≤ 4 ∧ 4 ≤ 16 ∨ 4 = 25) ∨ 80 ≤ 77 ∧ 77 ≤ 84 ∧ 8 ≤ 4 ∨ 85 ≤ 77 ∧ 77 ≤ 87 ∧ 12 ≤ 4 by decide)
                          refine to_an (pc := 5) rw_152_5 rfl (to_an (pc := 6) rw_152_6 rfl ?_)
                          have c_977 : M974.2.1 77 10 = (M700.2.1 77 10) := (W_n W973 (by decide) rfl)
                          have b_978 := g_b hG696 (a := 77) (i := 10) (lo := 0) (hi := 500) rfl rfl
                          refine tt_gI (pc := 7) rw_152_7 (g_o hG975 rfl) (v := (M700.2.1 77 10)) c_977 (s_pI (pc := 10) rw_152_10 hG975 rfl (fun M980 W979 => ?_))
                          have hG981 := g_wf hG975 W979 rfl rfl (by decide)
                          have F982 := FR.w F976 W979 (show 77 = 77 ∧ (5 = 4 ∨ 5 = 5 ∨ 7 ≤ 5 ∧ 5 ≤ 10 ∨ 14 ≤ 5 ∧ 5 ≤ 16 ∨ 5 = 25) ∨ 80 ≤ 77 ∧ 77 ≤ 84 ∧ 8 ≤ 5 ∨ 85 ≤ 77 ∧ 77 ≤ 87 ∧ 12 ≤ 5 by decide)
                          refine to_c (pc := 13) rw_152_13 (x := (0 : Int32)) rfl rfl (s_r1 (pc := 14) rw_152_14 (A := 0) rfl (by decide) (s_r1 (pc := 13) rw_162_13 (A := 0) rfl (by decide) (b_ine_f (pc := 218) rw_170_218 (A := 0) rfl (by decide) (to_c (pc := 221) rw_170_221 (x := (0 : Int32)) rfl rfl (s_r1 (pc := 222) rw_170_222 (A := 0) rfl (by decide) ?_)))))
                          have k_983 : (0 : Int32).toInt = 0 := rfl
                          have c_984 : M980.2.1 77 7 = (M700.2.1 77 7) := (W_n W979 (by decide) (W_n W973 (by decide) rfl))
                          have t_985 : (M980.2.1 77 7).toInt = (M700.2.1 77 7).toInt := congrArg Int32.toInt c_984
                          have c_986 : M980.2.1 77 6 = (M.2.1 77 6) := (W_n W979 (by decide) (W_n W973 (by decide) c_703))
                          have t_987 : (M980.2.1 77 6).toInt = (M.2.1 77 6).toInt := congrArg Int32.toInt c_986
                          have c_988 : M980.2.1 77 8 = (M700.2.1 77 8) := (W_n W979 (by decide) (W_n W973 (by decide) rfl))
                          have t_989 : (M980.2.1 77 8).toInt = (M700.2.1 77 8).toInt := congrArg Int32.toInt c_988
                          have j_990 := (FA_f (fun a i z => W_n W979 (tg_231 a i z) rfl) (FA_f (fun a i z => W_n W973 (tg_232 a i z) rfl) (FA_f (tg_220 F695) (FA_f (tg_218 F683) (FA_f (tg_220 F146) (FA_f (tg_220 F92) (FA_f (tg_221 F77) (FA_f (tg_220 F65) q2))))))))
                          have j_991 := (WR_f (fun a i z => W_n W979 (by /-r77,5-/ omega) rfl) (WR_f (fun a i z => W_n W973 (by /-r77,4-/ omega) rfl) (WR_f (tg_222 F695) (WR_f (tg_219 F683) (WR_f (tg_222 F146) (WR_f (tg_222 F92) (WR_f (tg_223 F77) (WR_f (tg_222 F65) q3))))))))
                          exact h (0 : Int32) M980 hG981 F982 (by decide) (by decide) (by omega) (by omega) (by omega) j_990 j_991
                      · refine to_an (pc := 169) rw_170_169 rfl (to_c (pc := 170) rw_170_170 (x := (3 : Int32)) rfl rfl (s_v (pc := 171) rw_170_171 (dp0 hd (by decide)) (ls0 := [.ref 77, .int (3 : Int32)]) rfl (Nat.le_of_ble_eq_true rfl) (Nat.le_of_ble_eq_true rfl) rfl (to_rc rfl rfl rfl (g_o hG684 rfl)) rfl (to_an (pc := 0) rw_152_0 rfl (to_in (pc := 1) rw_152_1 rfl (s_pI (pc := 2) rw_152_2 hG684 rfl (fun M993 W992 => ?_))))))
                        have hG994 := g_wf hG684 W992 rfl rfl (by decide)
                        have F995 := FR.w F686 W992 (show 77 = 77 ∧ (4 = 4 ∨ 4 = 5 ∨ 7 ≤ 4 ∧ 4 ≤ 10 ∨ 14 ≤ 4 ∧ 4 ≤ 16 ∨ 4 = 25) ∨ 80 ≤ 77 ∧ 77 ≤ 84 ∧ 8 ≤ 4 ∨ 85 ≤ 77 ∧ 77 ≤ 87 ∧ 12 ≤ 4 by decide)
                        refine to_an (pc := 5) rw_152_5 rfl (to_an (pc := 6) rw_152_6 rfl ?_)
                        have c_996 : M993.2.1 77 10 = (M151.2.1 77 10) := (W_n W992 (by decide) (F_n F683 (show ¬ (77 < 0) by decide) rfl))
                        have b_997 := g_b hG147 (a := 77) (i := 10) (lo := 0) (hi := 500) rfl rfl
                        refine tt_gI (pc := 7) rw_152_7 (g_o hG994 rfl) (v := (M151.2.1 77 10)) c_996 (s_pI (pc := 10) rw_152_10 hG994 rfl (fun M999 W998 => ?_))
                        have hG1000 := g_wf hG994 W998 rfl rfl (by decide)
                        have F1001 := FR.w F995 W998 (show 77 = 77 ∧ (5 = 4 ∨ 5 = 5 ∨ 7 ≤ 5 ∧ 5 ≤ 10 ∨ 14 ≤ 5 ∧ 5 ≤ 16 ∨ 5 = 25) ∨ 80 ≤ 77 ∧ 77 ≤ 84 ∧ 8 ≤ 5 ∨ 85 ≤ 77 ∧ 77 ≤ 87 ∧ 12 ≤ 5 by decide)
                        refine to_c (pc := 13) rw_152_13 (x := (0 : Int32)) rfl rfl (s_r1 (pc := 14) rw_152_14 (A := 0) rfl (by decide) (s_r1 (pc := 174) rw_170_174 (A := 0) rfl (by decide) ?_))
                        have k_1002 : (0 : Int32).toInt = 0 := rfl
                        have c_1003 : M999.2.1 77 7 = (M151.2.1 77 7) := (W_n W998 (by decide) (W_n W992 (by decide) (F_n F683 (show ¬ (77 < 0) by decide) rfl)))
                        have t_1004 : (M999.2.1 77 7).toInt = (M151.2.1 77 7).toInt := congrArg Int32.toInt c_1003
                        have c_1005 : M999.2.1 77 6 = (M.2.1 77 6) := (W_n W998 (by decide) (W_n W992 (by decide) (F_n F683 (show ¬ (77 < 0) by decide) c_154)))
                        have t_1006 : (M999.2.1 77 6).toInt = (M.2.1 77 6).toInt := congrArg Int32.toInt c_1005
                        have c_1007 : M999.2.1 77 8 = (M151.2.1 77 8) := (W_n W998 (by decide) (W_n W992 (by decide) (F_n F683 (show ¬ (77 < 0) by decide) rfl)))
                        have t_1008 : (M999.2.1 77 8).toInt = (M151.2.1 77 8).toInt := congrArg Int32.toInt c_1007
                        have j_1009 := (FA_f (fun a i z => W_n W998 (tg_231 a i z) rfl) (FA_f (fun a i z => W_n W992 (tg_232 a i z) rfl) (FA_f (tg_218 F683) (FA_f (tg_220 F146) (FA_f (tg_220 F92) (FA_f (tg_221 F77) (FA_f (tg_220 F65) q2)))))))
                        have j_1010 := (WR_f (fun a i z => W_n W998 (by /-r77,5-/ omega) rfl) (WR_f (fun a i z => W_n W992 (by /-r77,4-/ omega) rfl) (WR_f (tg_219 F683) (WR_f (tg_222 F146) (WR_f (tg_222 F92) (WR_f (tg_223 F77) (WR_f (tg_222 F65) q3)))))))
                        exact h (0 : Int32) M999 hG1000 F1001 (by decide) (by decide) (by omega) (by omega) (by omega) j_1009 j_1010
                    · refine to_an (pc := 30) rw_162_30 rfl (to_c (pc := 31) rw_162_31 (x := (2 : Int32)) rfl rfl (s_v (pc := 32) rw_162_32 (dp1 hd (by decide)) (ls0 := [.ref 77, .int (2 : Int32)]) rfl (Nat.le_of_ble_eq_true rfl) (Nat.le_of_ble_eq_true rfl) rfl (to_rc rfl rfl rfl (g_o hG147 rfl)) rfl (to_an (pc := 0) rw_152_0 rfl (to_in (pc := 1) rw_152_1 rfl (s_pI (pc := 2) rw_152_2 hG147 rfl (fun M1012 W1011 => ?_))))))
                      have hG1013 := g_wf hG147 W1011 rfl rfl (by decide)
                      have F1014 := FR.w F152 W1011 (show 77 = 77 ∧ (4 = 4 ∨ 4 = 5 ∨ 7 ≤ 4 ∧ 4 ≤ 10 ∨ 14 ≤ 4 ∧ 4 ≤ 16 ∨ 4 = 25) ∨ 80 ≤ 77 ∧ 77 ≤ 84 ∧ 8 ≤ 4 ∨ 85 ≤ 77 ∧ 77 ≤ 87 ∧ 12 ≤ 4 by decide)
                      refine to_an (pc := 5) rw_152_5 rfl (to_an (pc := 6) rw_152_6 rfl ?_)
                      have c_1015 : M1012.2.1 77 10 = (M151.2.1 77 10) := (W_n W1011 (by decide) rfl)
                      have b_1016 := g_b hG147 (a := 77) (i := 10) (lo := 0) (hi := 500) rfl rfl
                      refine tt_gI (pc := 7) rw_152_7 (g_o hG1013 rfl) (v := (M151.2.1 77 10)) c_1015 (s_pI (pc := 10) rw_152_10 hG1013 rfl (fun M1018 W1017 => ?_))
                      have hG1019 := g_wf hG1013 W1017 rfl rfl (by decide)
                      have F1020 := FR.w F1014 W1017 (show 77 = 77 ∧ (5 = 4 ∨ 5 = 5 ∨ 7 ≤ 5 ∧ 5 ≤ 10 ∨ 14 ≤ 5 ∧ 5 ≤ 16 ∨ 5 = 25) ∨ 80 ≤ 77 ∧ 77 ≤ 84 ∧ 8 ≤ 5 ∨ 85 ≤ 77 ∧ 77 ≤ 87 ∧ 12 ≤ 5 by decide)
                      refine to_c (pc := 13) rw_152_13 (x := (0 : Int32)) rfl rfl (s_r1 (pc := 14) rw_152_14 (A := 0) rfl (by decide) (b_ieq_t (pc := 35) rw_162_35 (A := 0) rfl (by decide) (to_c (pc := 42) rw_162_42 (x := (0 : Int32)) rfl rfl (s_r1 (pc := 43) rw_162_43 (A := 0) rfl (by decide) (b_ine_f (pc := 138) rw_170_138 (A := 0) rfl (by decide) (to_c (pc := 141) rw_170_141 (x := (0 : Int32)) rfl rfl (s_r1 (pc := 142) rw_170_142 (A := 0) rfl (by decide) ?_)))))))
                      have k_1021 : (0 : Int32).toInt = 0 := rfl
                      have c_1022 : M1018.2.1 77 7 = (M151.2.1 77 7) := (W_n W1017 (by decide) (W_n W1011 (by decide) rfl))
                      have t_1023 : (M1018.2.1 77 7).toInt = (M151.2.1 77 7).toInt := congrArg Int32.toInt c_1022
                      have c_1024 : M1018.2.1 77 6 = (M.2.1 77 6) := (W_n W1017 (by decide) (W_n W1011 (by decide) c_154))
                      have t_1025 : (M1018.2.1 77 6).toInt = (M.2.1 77 6).toInt := congrArg Int32.toInt c_1024
                      have c_1026 : M1018.2.1 77 8 = (M151.2.1 77 8) := (W_n W1017 (by decide) (W_n W1011 (by decide) rfl))
                      have t_1027 : (M1018.2.1 77 8).toInt = (M151.2.1 77 8).toInt := congrArg Int32.toInt c_1026
                      have j_1028 := (FA_f (fun a i z => W_n W1017 (tg_231 a i z) rfl) (FA_f (fun a i z => W_n W1011 (tg_232 a i z) rfl) (FA_f (tg_220 F146) (FA_f (tg_220 F92) (FA_f (tg_221 F77) (FA_f (tg_220 F65) q2))))))
                      have j_1029 := (WR_f (fun a i z => W_n W1017 (by /-r77,5-/ omega) rfl) (WR_f (fun a i z => W_n W1011 (by /-r77,4-/ omega) rfl) (WR_f (tg_222 F146) (WR_f (tg_222 F92) (WR_f (tg_223 F77) (WR_f (tg_222 F65) q3))))))
                      exact h (0 : Int32) M1018 hG1019 F1020 (by decide) (by decide) (by omega) (by omega) (by omega) j_1028 j_1029
                · refine to_an (pc := 8) rw_162_8 rfl (to_c (pc := 9) rw_162_9 (x := (1 : Int32)) rfl rfl (s_v (pc := 10) rw_162_10 (dp1 hd (by decide)) (ls0 := [.ref 77, .int (1 : Int32)]) rfl (Nat.le_of_ble_eq_true rfl) (Nat.le_of_ble_eq_true rfl) rfl (to_rc rfl rfl rfl (g_o hG147 rfl)) rfl (to_an (pc := 0) rw_152_0 rfl (to_in (pc := 1) rw_152_1 rfl (s_pI (pc := 2) rw_152_2 hG147 rfl (fun M1031 W1030 => ?_))))))
                  have hG1032 := g_wf hG147 W1030 rfl rfl (by decide)
                  have F1033 := FR.w F152 W1030 (show 77 = 77 ∧ (4 = 4 ∨ 4 = 5 ∨ 7 ≤ 4 ∧ 4 ≤ 10 ∨ 14 ≤ 4 ∧ 4 ≤ 16 ∨ 4 = 25) ∨ 80 ≤ 77 ∧ 77 ≤ 84 ∧ 8 ≤ 4 ∨ 85 ≤ 77 ∧ 77 ≤ 87 ∧ 12 ≤ 4 by decide)
                  refine to_an (pc := 5) rw_152_5 rfl (to_an (pc := 6) rw_152_6 rfl ?_)
                  have c_1034 : M1031.2.1 77 10 = (M151.2.1 77 10) := (W_n W1030 (by decide) rfl)
                  have b_1035 := g_b hG147 (a := 77) (i := 10) (lo := 0) (hi := 500) rfl rfl
                  refine tt_gI (pc := 7) rw_152_7 (g_o hG1032 rfl) (v := (M151.2.1 77 10)) c_1034 (s_pI (pc := 10) rw_152_10 hG1032 rfl (fun M1037 W1036 => ?_))
                  have hG1038 := g_wf hG1032 W1036 rfl rfl (by decide)
                  have F1039 := FR.w F1033 W1036 (show 77 = 77 ∧ (5 = 4 ∨ 5 = 5 ∨ 7 ≤ 5 ∧ 5 ≤ 10 ∨ 14 ≤ 5 ∧ 5 ≤ 16 ∨ 5 = 25) ∨ 80 ≤ 77 ∧ 77 ≤ 84 ∧ 8 ≤ 5 ∨ 85 ≤ 77 ∧ 77 ≤ 87 ∧ 12 ≤ 5 by decide)
                  refine to_c (pc := 13) rw_152_13 (x := (0 : Int32)) rfl rfl (s_r1 (pc := 14) rw_152_14 (A := 0) rfl (by decide) (s_r1 (pc := 13) rw_162_13 (A := 0) rfl (by decide) (b_ine_f (pc := 138) rw_170_138 (A := 0) rfl (by decide) (to_c (pc := 141) rw_170_141 (x := (0 : Int32)) rfl rfl (s_r1 (pc := 142) rw_170_142 (A := 0) rfl (by decide) ?_)))))
                  have k_1040 : (0 : Int32).toInt = 0 := rfl
                  have c_1041 : M1037.2.1 77 7 = (M151.2.1 77 7) := (W_n W1036 (by decide) (W_n W1030 (by decide) rfl))
                  have t_1042 : (M1037.2.1 77 7).toInt = (M151.2.1 77 7).toInt := congrArg Int32.toInt c_1041
                  have c_1043 : M1037.2.1 77 6 = (M.2.1 77 6) := (W_n W1036 (by decide) (W_n W1030 (by decide) c_154))
                  have t_1044 : (M1037.2.1 77 6).toInt = (M.2.1 77 6).toInt := congrArg Int32.toInt c_1043
                  have c_1045 : M1037.2.1 77 8 = (M151.2.1 77 8) := (W_n W1036 (by decide) (W_n W1030 (by decide) rfl))
                  have t_1046 : (M1037.2.1 77 8).toInt = (M151.2.1 77 8).toInt := congrArg Int32.toInt c_1045
                  have j_1047 := (FA_f (fun a i z => W_n W1036 (tg_231 a i z) rfl) (FA_f (fun a i z => W_n W1030 (tg_232 a i z) rfl) (FA_f (tg_220 F146) (FA_f (tg_220 F92) (FA_f (tg_221 F77) (FA_f (tg_220 F65) q2))))))
                  have j_1048 := (WR_f (fun a i z => W_n W1036 (by /-r77,5-/ omega) rfl) (WR_f (fun a i z => W_n W1030 (by /-r77,4-/ omega) rfl) (WR_f (tg_222 F146) (WR_f (tg_222 F92) (WR_f (tg_223 F77) (WR_f (tg_222 F65) q3))))))
                  exact h (0 : Int32) M1037 hG1038 F1039 (by decide) (by decide) (by omega) (by omega) (by omega) j_1047 j_1048
          · refine to_an (pc := 70) rw_170_70 rfl (to_c (pc := 71) rw_170_71 (x := (1 : Int32)) rfl rfl (s_v (pc := 72) rw_170_72 (dp0 hd (by decide)) (ls0 := [.ref 77, .int (1 : Int32)]) rfl (Nat.le_of_ble_eq_true rfl) (Nat.le_of_ble_eq_true rfl) rfl (to_rc rfl rfl rfl (g_o hG93 rfl)) rfl (to_an (pc := 0) rw_152_0 rfl (to_in (pc := 1) rw_152_1 rfl (s_pI (pc := 2) rw_152_2 hG93 rfl (fun M1050 W1049 => ?_))))))
            have hG1051 := g_wf hG93 W1049 rfl rfl (by decide)
            have F1052 := FR.w F98 W1049 (show 77 = 77 ∧ (4 = 4 ∨ 4 = 5 ∨ 7 ≤ 4 ∧ 4 ≤ 10 ∨ 14 ≤ 4 ∧ 4 ≤ 16 ∨ 4 = 25) ∨ 80 ≤ 77 ∧ 77 ≤ 84 ∧ 8 ≤ 4 ∨ 85 ≤ 77 ∧ 77 ≤ 87 ∧ 12 ≤ 4 by decide)
            refine to_an (pc := 5) rw_152_5 rfl (to_an (pc := 6) rw_152_6 rfl ?_)
            have c_1053 : M1050.2.1 77 10 = (M97.2.1 77 10) := (W_n W1049 (by decide) rfl)
            have b_1054 := g_b hG93 (a := 77) (i := 10) (lo := 0) (hi := 500) rfl rfl
            refine tt_gI (pc := 7) rw_152_7 (g_o hG1051 rfl) (v := (M97.2.1 77 10)) c_1053 (s_pI (pc := 10) rw_152_10 hG1051 rfl (fun M1056 W1055 => ?_))
            have hG1057 := g_wf hG1051 W1055 rfl rfl (by decide)
            have F1058 := FR.w F1052 W1055 (show 77 = 77 ∧ (5 = 4 ∨ 5 = 5 ∨ 7 ≤ 5 ∧ 5 ≤ 10 ∨ 14 ≤ 5 ∧ 5 ≤ 16 ∨ 5 = 25) ∨ 80 ≤ 77 ∧ 77 ≤ 84 ∧ 8 ≤ 5 ∨ 85 ≤ 77 ∧ 77 ≤ 87 ∧ 12 ≤ 5 by decide)
            refine to_c (pc := 13) rw_152_13 (x := (0 : Int32)) rfl rfl (s_r1 (pc := 14) rw_152_14 (A := 0) rfl (by decide) (s_r1 (pc := 75) rw_170_75 (A := 0) rfl (by decide) ?_))
            have k_1059 : (0 : Int32).toInt = 0 := rfl
            have c_1060 : M1056.2.1 77 7 = (M97.2.1 77 7) := (W_n W1055 (by decide) (W_n W1049 (by decide) rfl))
            have t_1061 : (M1056.2.1 77 7).toInt = (M97.2.1 77 7).toInt := congrArg Int32.toInt c_1060
            have c_1062 : M1056.2.1 77 6 = (M.2.1 77 6) := (W_n W1055 (by decide) (W_n W1049 (by decide) c_100))
            have t_1063 : (M1056.2.1 77 6).toInt = (M.2.1 77 6).toInt := congrArg Int32.toInt c_1062
            have c_1064 : M1056.2.1 77 8 = (M97.2.1 77 8) := (W_n W1055 (by decide) (W_n W1049 (by decide) rfl))
            have t_1065 : (M1056.2.1 77 8).toInt = (M97.2.1 77 8).toInt := congrArg Int32.toInt c_1064
            have j_1066 := (FA_f (fun a i z => W_n W1055 (tg_231 a i z) rfl) (FA_f (fun a i z => W_n W1049 (tg_232 a i z) rfl) (FA_f (tg_220 F92) (FA_f (tg_221 F77) (FA_f (tg_220 F65) q2)))))
            have j_1067 := (WR_f (fun a i z => W_n W1055 (by /-r77,5-/ omega) rfl) (WR_f (fun a i z => W_n W1049 (by /-r77,4-/ omega) rfl) (WR_f (tg_222 F92) (WR_f (tg_223 F77) (WR_f (tg_222 F65) q3)))))
            exact h (0 : Int32) M1056 hG1057 F1058 (by decide) (by decide) (by omega) (by omega) (by omega) j_1066 j_1067
    · refine to_c (pc := 26) rw_170_26 (x := (0 : Int32)) rfl rfl (s_r1 (pc := 27) rw_170_27 (A := 0) rfl (by decide) ?_)
      have k_1068 : (0 : Int32).toInt = 0 := rfl
      have c_1069 : M81.2.1 77 7 = (M70.2.1 77 7) := (F_n F77 (show ¬ (77 = 77 ∧ (7 = 4 ∨ 7 = 5)) by decide) rfl)
      have t_1070 : (M81.2.1 77 7).toInt = (M70.2.1 77 7).toInt := congrArg Int32.toInt c_1069
      have c_1071 : M81.2.1 77 6 = (M.2.1 77 6) := (F_n F77 (show ¬ (77 = 77 ∧ (6 = 4 ∨ 6 = 5)) by decide) c_73)
      have t_1072 : (M81.2.1 77 6).toInt = (M.2.1 77 6).toInt := congrArg Int32.toInt c_1071
      have c_1073 : M81.2.1 77 8 = (M70.2.1 77 8) := (F_n F77 (show ¬ (77 = 77 ∧ (8 = 4 ∨ 8 = 5)) by decide) rfl)
      have t_1074 : (M81.2.1 77 8).toInt = (M70.2.1 77 8).toInt := congrArg Int32.toInt c_1073
      have j_1075 := (FA_f (tg_221 F77) (FA_f (tg_220 F65) q2))
      have j_1076 := (WR_f (tg_223 F77) (WR_f (tg_222 F65) q3))
      exact h (0 : Int32) M81 hG78 F82 (by decide) (by decide) (by omega) (by omega) (by omega) j_1075 j_1076
  · refine to_an (pc := 9) rw_170_9 rfl (to_c (pc := 10) rw_170_10 (x := (2 : Int32)) rfl rfl (s_v (pc := 11) rw_170_11 (dp0 hd (by decide)) (ls0 := [.ref 77, .int (2 : Int32)]) rfl (Nat.le_of_ble_eq_true rfl) (Nat.le_of_ble_eq_true rfl) rfl (to_rc rfl rfl rfl (g_o hG rfl)) rfl (to_an (pc := 0) rw_152_0 rfl (to_in (pc := 1) rw_152_1 rfl (s_pI (pc := 2) rw_152_2 hG rfl (fun M1078 W1077 => ?_))))))
    have hG1079 := g_wf hG W1077 rfl rfl (by decide)
    have F1080 := FR.w F0 W1077 (show 77 = 77 ∧ (4 = 4 ∨ 4 = 5 ∨ 7 ≤ 4 ∧ 4 ≤ 10 ∨ 14 ≤ 4 ∧ 4 ≤ 16 ∨ 4 = 25) ∨ 80 ≤ 77 ∧ 77 ≤ 84 ∧ 8 ≤ 4 ∨ 85 ≤ 77 ∧ 77 ≤ 87 ∧ 12 ≤ 4 by decide)
    refine to_an (pc := 5) rw_152_5 rfl (to_an (pc := 6) rw_152_6 rfl ?_)
    have c_1081 : M1078.2.1 77 10 = (M.2.1 77 10) := (W_n W1077 (by decide) rfl)
    have b_1082 := g_b hG (a := 77) (i := 10) (lo := 0) (hi := 500) rfl rfl
    refine tt_gI (pc := 7) rw_152_7 (g_o hG1079 rfl) (v := (M.2.1 77 10)) c_1081 (s_pI (pc := 10) rw_152_10 hG1079 rfl (fun M1084 W1083 => ?_))
    have hG1085 := g_wf hG1079 W1083 rfl rfl (by decide)
    have F1086 := FR.w F1080 W1083 (show 77 = 77 ∧ (5 = 4 ∨ 5 = 5 ∨ 7 ≤ 5 ∧ 5 ≤ 10 ∨ 14 ≤ 5 ∧ 5 ≤ 16 ∨ 5 = 25) ∨ 80 ≤ 77 ∧ 77 ≤ 84 ∧ 8 ≤ 5 ∨ 85 ≤ 77 ∧ 77 ≤ 87 ∧ 12 ≤ 5 by decide)
    refine to_c (pc := 13) rw_152_13 (x := (0 : Int32)) rfl rfl (s_r1 (pc := 14) rw_152_14 (A := 0) rfl (by decide) (s_r1 (pc := 14) rw_170_14 (A := 0) rfl (by decide) ?_))
    have k_1087 : (0 : Int32).toInt = 0 := rfl
    have c_1088 : M1084.2.1 77 7 = (M.2.1 77 7) := (W_n W1083 (by decide) (W_n W1077 (by decide) rfl))
    have t_1089 : (M1084.2.1 77 7).toInt = (M.2.1 77 7).toInt := congrArg Int32.toInt c_1088
    have c_1090 : M1084.2.1 77 6 = (M.2.1 77 6) := (W_n W1083 (by decide) (W_n W1077 (by decide) rfl))
    have t_1091 : (M1084.2.1 77 6).toInt = (M.2.1 77 6).toInt := congrArg Int32.toInt c_1090
    have c_1092 : M1084.2.1 77 8 = (M.2.1 77 8) := (W_n W1083 (by decide) (W_n W1077 (by decide) rfl))
    have b_1093 := g_b hG (a := 77) (i := 8) (lo := 0) (hi := 5) rfl rfl
    have t_1094 : (M1084.2.1 77 8).toInt = (M.2.1 77 8).toInt := congrArg Int32.toInt c_1092
    have j_1095 := (FA_f (fun a i z => W_n W1083 (tg_231 a i z) rfl) (FA_f (fun a i z => W_n W1077 (tg_232 a i z) rfl) q2))
    have j_1096 := (WR_f (fun a i z => W_n W1083 (by /-r77,5-/ omega) rfl) (WR_f (fun a i z => W_n W1077 (by /-r77,4-/ omega) rfl) q3))
    exact h (0 : Int32) M1084 hG1085 F1086 (by decide) (by decide) (by omega) (by omega) (by omega) j_1095 j_1096
set_option maxRecDepth 4000 in
set_option maxHeartbeats 0 in
theorem T_171_0 {X : mm_X} {d : Nat} {M : mm_M} {Q : Option Value → mm_M → Prop} (hX : g_X X) (hd : 3 ≤ d) (q1 : (M.2.1 77 7).toInt ≤ (M.2.1 77 6).toInt) (q2 : WR M) (h : ∀ (r : Int32) (M1 : mm_M), g_G M1 → FR md_wl M M1 → (0 ≤ r.toInt) → (r.toInt ≤ 1) → ((M1.2.1 77 7).toInt ≤ (M1.2.1 77 6).toInt) → ((M.2.1 77 7).toInt ≤ (M1.2.1 77 7).toInt) → (r.toInt = 1 → (M1.2.1 77 8).toInt = 0 ∨ (M.2.1 77 7).toInt < (M1.2.1 77 7).toInt) → WR M1 → Q (some (.int r)) M1) : ∀ nn9 : Nat, (∀ (N : mm_M) (x1 : Int32) (x2 : Int32) (x3 : Int32) (y4 : Int64), g_G N → FR md_wl M N → (0 ≤ x1.toInt) → (x1.toInt ≤ 7) → (x1.toInt < (N.2.1 77 15).toInt) → ((N.2.1 77 16).toInt ≤ 11) → ((N.2.1 77 7).toInt ≤ (N.2.1 77 6).toInt) → ((M.2.1 77 7).toInt ≤ (N.2.1 77 7).toInt) → ((N.2.1 81 (8 + (x1.toInt).toNat)).toInt = 3) → ((N.2.1 77 8).toInt = 0 ∨ (M.2.1 77 7).toInt < (N.2.1 77 7).toInt) → (WR N) → 6 * (500 - (N.2.1 77 7).toInt) + (N.2.1 77 8).toInt < (nn9 : Int) → mm_T X d 170 106 [.ref 77, .int x1, .int x2, .int x3, .long y4, .null] [] N Q) := by
  intro nn9
  induction nn9 with
  | zero =>
    intro N x1 x2 x3 y4 hG F0 g1 g2 g3 g4 g5 g6 g7 g8 g9 hm
    have b_1 := g_b hG (a := 77) (i := 7) (lo := 0) (hi := 500) rfl rfl
    have b_2 := g_b hG (a := 77) (i := 8) (lo := 0) (hi := 5) rfl rfl
    have b_3 := g_b hG (a := 77) (i := 15) (lo := 0) (hi := 8) rfl rfl
    have b_4 := g_b hG (a := 77) (i := 16) (lo := 0) (hi := 12) rfl rfl
    have b_5 := g_b hG (a := 77) (i := 6) (lo := 0) (hi := 500) rfl rfl
    exfalso; omega
  | succ nn9 ih =>
    intro N x1 x2 x3 y4 hG F0 g1 g2 g3 g4 g5 g6 g7 g8 g9 hm
    have b_6 := g_b hG (a := 77) (i := 7) (lo := 0) (hi := 500) rfl rfl
    have b_7 := g_b hG (a := 77) (i := 8) (lo := 0) (hi := 5) rfl rfl
    have b_8 := g_b hG (a := 77) (i := 15) (lo := 0) (hi := 8) rfl rfl
    have b_9 := g_b hG (a := 77) (i := 16) (lo := 0) (hi := 12) rfl rfl
    have b_10 := g_b hG (a := 77) (i := 6) (lo := 0) (hi := 500) rfl rfl
    refine to_an (pc := 106) rw_171_106 rfl (tt_gI (pc := 107) rw_171_107 (g_o hG rfl) (v := (N.2.1 77 8)) rfl (to_c (pc := 110) rw_171_110 (x := (3 : Int32)) rfl rfl (b_cne (pc := 111) rw_171_111 (A := (N.2.1 77 8).toInt) (B := 3) rfl rfl (fun h11 => ?_) (fun h11 => ?_))))
    · refine to_an (pc := 218) rw_171_218 rfl (to_c (pc := 219) rw_171_219 (x := (59 : Int32)) rfl rfl (s_v (pc := 221) rw_171_221 (dp0 hd (by decide)) (ls0 := [.ref 77, .int (59 : Int32)]) rfl (Nat.le_of_ble_eq_true rfl) (Nat.le_of_ble_eq_true rfl) rfl (to_rc rfl rfl rfl (g_o hG rfl)) rfl (to_an (pc := 0) rw_159_0 rfl (tt_gI (pc := 1) rw_159_1 (g_o hG rfl) (v := (N.2.1 77 8)) rfl (to_c (pc := 4) rw_159_4 (x := (4 : Int32)) rfl rfl (b_cne (pc := 5) rw_159_5 (A := (N.2.1 77 8).toInt) (B := 4) rfl rfl (fun h12 => ?_) (fun h12 => ?_)))))))
      · refine to_c (pc := 20) rw_159_20 (x := (0 : Int32)) rfl rfl (s_r1 (pc := 21) rw_159_21 (A := 0) rfl (by decide) (b_ieq_t (pc := 224) rw_171_224 (A := 0) rfl (by decide) (to_an (pc := 246) rw_171_246 rfl (s_gR (pc := 247) rw_171_247 hG rfl (v := 85) rfl (to_c (pc := 250) rw_171_250 (x := (12 : Int32)) rfl rfl (to_an (pc := 252) rw_171_252 rfl (tt_gI (pc := 253) rw_171_253 (g_o hG rfl) (v := (N.2.1 77 16)) rfl (s_add (pc := 256) rw_171_256 (A := 12) (B := (N.2.1 77 16).toInt) rfl rfl (by omega) (fun v13 e14 => to_in (pc := 257) rw_171_257 rfl (s_ias (pc := 258) rw_171_258 hG rfl (n := 24) rfl (A := v13.toInt) rfl (by omega) (by omega) (fun M16 W15 => ?_)))))))))))
        have hG17 := g_wf hG W15 rfl rfl (by decide)
        have F18 := FR.w F0 W15 (show 85 = 77 ∧ ((v13.toInt).toNat = 4 ∨ (v13.toInt).toNat = 5 ∨ 7 ≤ (v13.toInt).toNat ∧ (v13.toInt).toNat ≤ 10 ∨ (v13.toInt).toNat = 16) ∨ 85 ≤ 85 ∧ 85 ≤ 87 ∧ 12 ≤ (v13.toInt).toNat by omega)
        have j_19 := (WR_f (fun a i z => W_n W15 (by /-r85-/ omega) rfl) g9)
        have c_20 : M16.2.1 77 16 = (N.2.1 77 16) := (W_n W15 (fun z => absurd z.1 (by decide)) rfl)
        have t_21 : (M16.2.1 77 16).toInt = (N.2.1 77 16).toInt := congrArg Int32.toInt c_20
        have c_22 : M16.2.1 77 15 = (N.2.1 77 15) := (W_n W15 (fun z => absurd z.1 (by decide)) rfl)
        have t_23 : (M16.2.1 77 15).toInt = (N.2.1 77 15).toInt := congrArg Int32.toInt c_22
        have j_24 : (M16.2.1 81 (8 + (x1.toInt).toNat)).toInt = 3 := by rw [(W_n W15 (by omega) rfl)]; exact g7
        refine to_an (pc := 259) rw_171_259 rfl (s_gR (pc := 260) rw_171_260 hG17 rfl (v := 86) rfl (to_c (pc := 263) rw_171_263 (x := (12 : Int32)) rfl rfl (to_an (pc := 265) rw_171_265 rfl (tt_gI (pc := 266) rw_171_266 (g_o hG17 rfl) (v := (N.2.1 77 16)) c_20 (s_add (pc := 269) rw_171_269 (A := 12) (B := (N.2.1 77 16).toInt) rfl rfl (by omega) (fun v25 e26 => to_in (pc := 270) rw_171_270 rfl (s_ias (pc := 271) rw_171_271 hG17 rfl (n := 24) rfl (A := v25.toInt) rfl (by omega) (by omega) (fun M28 W27 => ?_))))))))
        have hG29 := g_w hG17 W27 (A := x1.toInt) rfl (lo := 0) (hi := 7) rfl rfl (by omega) (by decide)
        have F30 := FR.w F18 W27 (show 86 = 77 ∧ ((v25.toInt).toNat = 4 ∨ (v25.toInt).toNat = 5 ∨ 7 ≤ (v25.toInt).toNat ∧ (v25.toInt).toNat ≤ 10 ∨ (v25.toInt).toNat = 16) ∨ 85 ≤ 86 ∧ 86 ≤ 87 ∧ 12 ≤ (v25.toInt).toNat by omega)
        refine to_an (pc := 272) rw_171_272 rfl (s_gR (pc := 273) rw_171_273 hG29 rfl (v := 87) rfl (to_c (pc := 276) rw_171_276 (x := (12 : Int32)) rfl rfl (to_an (pc := 278) rw_171_278 rfl ?_)))
        have c_31 : M28.2.1 77 16 = (N.2.1 77 16) := (W_n W27 (fun z => absurd z.1 (by decide)) c_20)
        refine tt_gI (pc := 279) rw_171_279 (g_o hG29 rfl) (v := (N.2.1 77 16)) c_31 (s_add (pc := 282) rw_171_282 (A := 12) (B := (N.2.1 77 16).toInt) rfl rfl (by omega) (fun v32 e33 => to_l (pc := 283) rw_171_283 rfl rfl rfl (s_las (pc := 285) rw_171_285 hG29 rfl (n := 24) rfl (A := v32.toInt) rfl (by omega) (by omega) (fun M35 W34 => ?_))))
        have hG36 := g_wl hG29 W34
        have F37 := FR.wl F30 W34 (show 87 = 77 ∧ ((v32.toInt).toNat = 4 ∨ (v32.toInt).toNat = 5 ∨ 7 ≤ (v32.toInt).toNat ∧ (v32.toInt).toNat ≤ 10 ∨ (v32.toInt).toNat = 16) ∨ 85 ≤ 87 ∧ 87 ≤ 87 ∧ 12 ≤ (v32.toInt).toNat by omega)
        refine to_an (pc := 286) rw_171_286 rfl (to_dupr (pc := 287) rw_171_287 ?_)
        have c_38 : M35.2.1 77 16 = (N.2.1 77 16) := (W_l W34 c_31)
        refine tt_gI (pc := 288) rw_171_288 (g_o hG36 rfl) (v := (N.2.1 77 16)) c_38 (to_c (pc := 291) rw_171_291 (x := (1 : Int32)) rfl rfl (s_add (pc := 292) rw_171_292 (A := (N.2.1 77 16).toInt) (B := 1) rfl rfl (by omega) (fun v39 e40 => s_pI (pc := 293) rw_171_293 hG36 rfl (fun M42 W41 => ?_))))
        have hG43 := g_w hG36 W41 (A := v39.toInt) rfl (lo := 0) (hi := 12) rfl rfl (by omega) (by decide)
        have F44 := FR.w F37 W41 (show 77 = 77 ∧ (16 = 4 ∨ 16 = 5 ∨ 7 ≤ 16 ∧ 16 ≤ 10 ∨ 16 = 16) ∨ 85 ≤ 77 ∧ 77 ≤ 87 ∧ 12 ≤ 16 by decide)
        have j_45 := WR_word (M1 := M42) (n := ((M16.2.1 77 16).toInt).toNat) (f := x1) j_19 (by omega) (W_n W41 (by omega) (W_l W34 (W_n W27 (by omega) rfl))) (fun i => (W_n W41 (by omega) (W_l W34 (W_n W27 (by omega) rfl)))) (fun i z => (W_n W41 (by omega) (W_l W34 (W_n W27 (by omega) rfl)))) (by rw [show 12 + ((M16.2.1 77 16).toInt).toNat = (v25.toInt).toNat by omega]; exact (W_n W41 (by omega) (W_l W34 (W_e W27)))) (by have z := congrArg Int32.toInt (W_e W41); omega) (by omega) j_24
        refine to_c (pc := 296) rw_171_296 (x := (1 : Int32)) rfl rfl (s_r1 (pc := 297) rw_171_297 (A := 1) rfl (by decide) ?_)
        have k_46 : (1 : Int32).toInt = 1 := rfl
        have c_47 : M42.2.1 77 7 = (N.2.1 77 7) := (W_n W41 (by decide) (W_l W34 (W_n W27 (fun z => absurd z.1 (by decide)) (W_n W15 (fun z => absurd z.1 (by decide)) rfl))))
        have t_48 : (M42.2.1 77 7).toInt = (N.2.1 77 7).toInt := congrArg Int32.toInt c_47
        have c_49 : M42.2.1 77 6 = (N.2.1 77 6) := (W_n W41 (by decide) (W_l W34 (W_n W27 (fun z => absurd z.1 (by decide)) (W_n W15 (fun z => absurd z.1 (by decide)) rfl))))
        have t_50 : (M42.2.1 77 6).toInt = (N.2.1 77 6).toInt := congrArg Int32.toInt c_49
        have c_51 : M42.2.1 77 8 = (N.2.1 77 8) := (W_n W41 (by decide) (W_l W34 (W_n W27 (fun z => absurd z.1 (by decide)) (W_n W15 (fun z => absurd z.1 (by decide)) rfl))))
        have t_52 : (M42.2.1 77 8).toInt = (N.2.1 77 8).toInt := congrArg Int32.toInt c_51
        exact h (1 : Int32) M42 hG43 F44 (by decide) (by decide) (by omega) (by omega) (by omega) j_45
      · refine to_an (pc := 8) rw_159_8 rfl (tt_gI (pc := 9) rw_159_9 (g_o hG rfl) (v := (N.2.1 77 9)) rfl (to_in (pc := 12) rw_159_12 rfl (b_cne (pc := 13) rw_159_13 (A := (N.2.1 77 9).toInt) (B := 59) rfl rfl (fun h53 => ?_) (fun h53 => ?_))))
        · refine to_c (pc := 20) rw_159_20 (x := (0 : Int32)) rfl rfl (s_r1 (pc := 21) rw_159_21 (A := 0) rfl (by decide) (b_ieq_t (pc := 224) rw_171_224 (A := 0) rfl (by decide) (to_an (pc := 246) rw_171_246 rfl (s_gR (pc := 247) rw_171_247 hG rfl (v := 85) rfl (to_c (pc := 250) rw_171_250 (x := (12 : Int32)) rfl rfl (to_an (pc := 252) rw_171_252 rfl (tt_gI (pc := 253) rw_171_253 (g_o hG rfl) (v := (N.2.1 77 16)) rfl (s_add (pc := 256) rw_171_256 (A := 12) (B := (N.2.1 77 16).toInt) rfl rfl (by omega) (fun v54 e55 => to_in (pc := 257) rw_171_257 rfl (s_ias (pc := 258) rw_171_258 hG rfl (n := 24) rfl (A := v54.toInt) rfl (by omega) (by omega) (fun M57 W56 => ?_)))))))))))
          have hG58 := g_wf hG W56 rfl rfl (by decide)
          have F59 := FR.w F0 W56 (show 85 = 77 ∧ ((v54.toInt).toNat = 4 ∨ (v54.toInt).toNat = 5 ∨ 7 ≤ (v54.toInt).toNat ∧ (v54.toInt).toNat ≤ 10 ∨ (v54.toInt).toNat = 16) ∨ 85 ≤ 85 ∧ 85 ≤ 87 ∧ 12 ≤ (v54.toInt).toNat by omega)
          have j_60 := (WR_f (fun a i z => W_n W56 (by /-r85-/ omega) rfl) g9)
          have c_61 : M57.2.1 77 16 = (N.2.1 77 16) := (W_n W56 (fun z => absurd z.1 (by decide)) rfl)
          have t_62 : (M57.2.1 77 16).toInt = (N.2.1 77 16).toInt := congrArg Int32.toInt c_61
          have c_63 : M57.2.1 77 15 = (N.2.1 77 15) := (W_n W56 (fun z => absurd z.1 (by decide)) rfl)
          have t_64 : (M57.2.1 77 15).toInt = (N.2.1 77 15).toInt := congrArg Int32.toInt c_63
          have j_65 : (M57.2.1 81 (8 + (x1.toInt).toNat)).toInt = 3 := by rw [(W_n W56 (by omega) rfl)]; exact g7
          refine to_an (pc := 259) rw_171_259 rfl (s_gR (pc := 260) rw_171_260 hG58 rfl (v := 86) rfl (to_c (pc := 263) rw_171_263 (x := (12 : Int32)) rfl rfl (to_an (pc := 265) rw_171_265 rfl (tt_gI (pc := 266) rw_171_266 (g_o hG58 rfl) (v := (N.2.1 77 16)) c_61 (s_add (pc := 269) rw_171_269 (A := 12) (B := (N.2.1 77 16).toInt) rfl rfl (by omega) (fun v66 e67 => to_in (pc := 270) rw_171_270 rfl (s_ias (pc := 271) rw_171_271 hG58 rfl (n := 24) rfl (A := v66.toInt) rfl (by omega) (by omega) (fun M69 W68 => ?_))))))))
          have hG70 := g_w hG58 W68 (A := x1.toInt) rfl (lo := 0) (hi := 7) rfl rfl (by omega) (by decide)
          have F71 := FR.w F59 W68 (show 86 = 77 ∧ ((v66.toInt).toNat = 4 ∨ (v66.toInt).toNat = 5 ∨ 7 ≤ (v66.toInt).toNat ∧ (v66.toInt).toNat ≤ 10 ∨ (v66.toInt).toNat = 16) ∨ 85 ≤ 86 ∧ 86 ≤ 87 ∧ 12 ≤ (v66.toInt).toNat by omega)
          refine to_an (pc := 272) rw_171_272 rfl (s_gR (pc := 273) rw_171_273 hG70 rfl (v := 87) rfl (to_c (pc := 276) rw_171_276 (x := (12 : Int32)) rfl rfl (to_an (pc := 278) rw_171_278 rfl ?_)))
          have c_72 : M69.2.1 77 16 = (N.2.1 77 16) := (W_n W68 (fun z => absurd z.1 (by decide)) c_61)
          refine tt_gI (pc := 279) rw_171_279 (g_o hG70 rfl) (v := (N.2.1 77 16)) c_72 (s_add (pc := 282) rw_171_282 (A := 12) (B := (N.2.1 77 16).toInt) rfl rfl (by omega) (fun v73 e74 => to_l (pc := 283) rw_171_283 rfl rfl rfl (s_las (pc := 285) rw_171_285 hG70 rfl (n := 24) rfl (A := v73.toInt) rfl (by omega) (by omega) (fun M76 W75 => ?_))))
          have hG77 := g_wl hG70 W75
          have F78 := FR.wl F71 W75 (show 87 = 77 ∧ ((v73.toInt).toNat = 4 ∨ (v73.toInt).toNat = 5 ∨ 7 ≤ (v73.toInt).toNat ∧ (v73.toInt).toNat ≤ 10 ∨ (v73.toInt).toNat = 16) ∨ 85 ≤ 87 ∧ 87 ≤ 87 ∧ 12 ≤ (v73.toInt).toNat by omega)
          refine to_an (pc := 286) rw_171_286 rfl (to_dupr (pc := 287) rw_171_287 ?_)
          have c_79 : M76.2.1 77 16 = (N.2.1 77 16) := (W_l W75 c_72)
          refine tt_gI (pc := 288) rw_171_288 (g_o hG77 rfl) (v := (N.2.1 77 16)) c_79 (to_c (pc := 291) rw_171_291 (x := (1 : Int32)) rfl rfl (s_add (pc := 292) rw_171_292 (A := (N.2.1 77 16).toInt) (B := 1) rfl rfl (by omega) (fun v80 e81 => s_pI (pc := 293) rw_171_293 hG77 rfl (fun M83 W82 => ?_))))
          have hG84 := g_w hG77 W82 (A := v80.toInt) rfl (lo := 0) (hi := 12) rfl rfl (by omega) (by decide)
          have F85 := FR.w F78 W82 (show 77 = 77 ∧ (16 = 4 ∨ 16 = 5 ∨ 7 ≤ 16 ∧ 16 ≤ 10 ∨ 16 = 16) ∨ 85 ≤ 77 ∧ 77 ≤ 87 ∧ 12 ≤ 16 by decide)
          have j_86 := WR_word (M1 := M83) (n := ((M57.2.1 77 16).toInt).toNat) (f := x1) j_60 (by omega) (W_n W82 (by omega) (W_l W75 (W_n W68 (by omega) rfl))) (fun i => (W_n W82 (by omega) (W_l W75 (W_n W68 (by omega) rfl)))) (fun i z => (W_n W82 (by omega) (W_l W75 (W_n W68 (by omega) rfl)))) (by rw [show 12 + ((M57.2.1 77 16).toInt).toNat = (v66.toInt).toNat by omega]; exact (W_n W82 (by omega) (W_l W75 (W_e W68)))) (by have z := congrArg Int32.toInt (W_e W82); omega) (by omega) j_65
          refine to_c (pc := 296) rw_171_296 (x := (1 : Int32)) rfl rfl (s_r1 (pc := 297) rw_171_297 (A := 1) rfl (by decide) ?_)
          have k_87 : (1 : Int32).toInt = 1 := rfl
          have c_88 : M83.2.1 77 7 = (N.2.1 77 7) := (W_n W82 (by decide) (W_l W75 (W_n W68 (fun z => absurd z.1 (by decide)) (W_n W56 (fun z => absurd z.1 (by decide)) rfl))))
          have t_89 : (M83.2.1 77 7).toInt = (N.2.1 77 7).toInt := congrArg Int32.toInt c_88
          have c_90 : M83.2.1 77 6 = (N.2.1 77 6) := (W_n W82 (by decide) (W_l W75 (W_n W68 (fun z => absurd z.1 (by decide)) (W_n W56 (fun z => absurd z.1 (by decide)) rfl))))
          have t_91 : (M83.2.1 77 6).toInt = (N.2.1 77 6).toInt := congrArg Int32.toInt c_90
          have c_92 : M83.2.1 77 8 = (N.2.1 77 8) := (W_n W82 (by decide) (W_l W75 (W_n W68 (fun z => absurd z.1 (by decide)) (W_n W56 (fun z => absurd z.1 (by decide)) rfl))))
          have t_93 : (M83.2.1 77 8).toInt = (N.2.1 77 8).toInt := congrArg Int32.toInt c_92
          exact h (1 : Int32) M83 hG84 F85 (by decide) (by decide) (by omega) (by omega) (by omega) j_86
        · refine to_c (pc := 16) rw_159_16 (x := (1 : Int32)) rfl rfl (to_go (pc := 17) rw_159_17 (s_r1 (pc := 21) rw_159_21 (A := 1) rfl (by decide) (b_ieq_f (pc := 224) rw_171_224 (A := 1) rfl (by decide) (to_in (pc := 227) rw_171_227 rfl (to_an (pc := 228) rw_171_228 rfl (s_gR (pc := 229) rw_171_229 hG rfl (v := 84) rfl (to_c (pc := 232) rw_171_232 (x := (8 : Int32)) rfl rfl (to_in (pc := 234) rw_171_234 rfl (s_add (pc := 235) rw_171_235 (A := 8) (B := x1.toInt) rfl rfl (by omega) (fun v94 e95 => s_ial (pc := 236) rw_171_236 hG rfl (n := 16) rfl rfl (A := v94.toInt) rfl (by omega) (by omega) (lo := 0) (hi := 24) rfl rfl (fun v96 w_97 _ _ => b_cge (pc := 237) rw_171_237 (A := x3.toInt) (B := v96.toInt) rfl rfl (fun h98 => ?_) (fun h98 => ?_))))))))))))
          · refine to_an (pc := 246) rw_171_246 rfl (s_gR (pc := 247) rw_171_247 hG rfl (v := 85) rfl (to_c (pc := 250) rw_171_250 (x := (12 : Int32)) rfl rfl (to_an (pc := 252) rw_171_252 rfl (tt_gI (pc := 253) rw_171_253 (g_o hG rfl) (v := (N.2.1 77 16)) rfl (s_add (pc := 256) rw_171_256 (A := 12) (B := (N.2.1 77 16).toInt) rfl rfl (by omega) (fun v99 e100 => to_in (pc := 257) rw_171_257 rfl (s_ias (pc := 258) rw_171_258 hG rfl (n := 24) rfl (A := v99.toInt) rfl (by omega) (by omega) (fun M102 W101 => ?_))))))))
            have hG103 := g_wf hG W101 rfl rfl (by decide)
            have F104 := FR.w F0 W101 (show 85 = 77 ∧ ((v99.toInt).toNat = 4 ∨ (v99.toInt).toNat = 5 ∨ 7 ≤ (v99.toInt).toNat ∧ (v99.toInt).toNat ≤ 10 ∨ (v99.toInt).toNat = 16) ∨ 85 ≤ 85 ∧ 85 ≤ 87 ∧ 12 ≤ (v99.toInt).toNat by omega)
            have j_105 := (WR_f (fun a i z => W_n W101 (by /-r85-/ omega) rfl) g9)
            have c_106 : M102.2.1 77 16 = (N.2.1 77 16) := (W_n W101 (fun z => absurd z.1 (by decide)) rfl)
            have t_107 : (M102.2.1 77 16).toInt = (N.2.1 77 16).toInt := congrArg Int32.toInt c_106
            have c_108 : M102.2.1 77 15 = (N.2.1 77 15) := (W_n W101 (fun z => absurd z.1 (by decide)) rfl)
            have t_109 : (M102.2.1 77 15).toInt = (N.2.1 77 15).toInt := congrArg Int32.toInt c_108
            have j_110 : (M102.2.1 81 (8 + (x1.toInt).toNat)).toInt = 3 := by rw [(W_n W101 (by omega) rfl)]; exact g7
            refine to_an (pc := 259) rw_171_259 rfl (s_gR (pc := 260) rw_171_260 hG103 rfl (v := 86) rfl (to_c (pc := 263) rw_171_263 (x := (12 : Int32)) rfl rfl (to_an (pc := 265) rw_171_265 rfl (tt_gI (pc := 266) rw_171_266 (g_o hG103 rfl) (v := (N.2.1 77 16)) c_106 (s_add (pc := 269) rw_171_269 (A := 12) (B := (N.2.1 77 16).toInt) rfl rfl (by omega) (fun v111 e112 => to_in (pc := 270) rw_171_270 rfl (s_ias (pc := 271) rw_171_271 hG103 rfl (n := 24) rfl (A := v111.toInt) rfl (by omega) (by omega) (fun M114 W113 => ?_))))))))
            have hG115 := g_w hG103 W113 (A := x1.toInt) rfl (lo := 0) (hi := 7) rfl rfl (by omega) (by decide)
            have F116 := FR.w F104 W113 (show 86 = 77 ∧ ((v111.toInt).toNat = 4 ∨ (v111.toInt).toNat = 5 ∨ 7 ≤ (v111.toInt).toNat ∧ (v111.toInt).toNat ≤ 10 ∨ (v111.toInt).toNat = 16) ∨ 85 ≤ 86 ∧ 86 ≤ 87 ∧ 12 ≤ (v111.toInt).toNat by omega)
            refine to_an (pc := 272) rw_171_272 rfl (s_gR (pc := 273) rw_171_273 hG115 rfl (v := 87) rfl (to_c (pc := 276) rw_171_276 (x := (12 : Int32)) rfl rfl (to_an (pc := 278) rw_171_278 rfl ?_)))
            have c_117 : M114.2.1 77 16 = (N.2.1 77 16) := (W_n W113 (fun z => absurd z.1 (by decide)) c_106)
            refine tt_gI (pc := 279) rw_171_279 (g_o hG115 rfl) (v := (N.2.1 77 16)) c_117 (s_add (pc := 282) rw_171_282 (A := 12) (B := (N.2.1 77 16).toInt) rfl rfl (by omega) (fun v118 e119 => to_l (pc := 283) rw_171_283 rfl rfl rfl (s_las (pc := 285) rw_171_285 hG115 rfl (n := 24) rfl (A := v118.toInt) rfl (by omega) (by omega) (fun M121 W120 => ?_))))
            have hG122 := g_wl hG115 W120
            have F123 := FR.wl F116 W120 (show 87 = 77 ∧ ((v118.toInt).toNat = 4 ∨ (v118.toInt).toNat = 5 ∨ 7 ≤ (v118.toInt).toNat ∧ (v118.toInt).toNat ≤ 10 ∨ (v118.toInt).toNat = 16) ∨ 85 ≤ 87 ∧ 87 ≤ 87 ∧ 12 ≤ (v118.toInt).toNat by omega)
            refine to_an (pc := 286) rw_171_286 rfl (to_dupr (pc := 287) rw_171_287 ?_)
            have c_124 : M121.2.1 77 16 = (N.2.1 77 16) := (W_l W120 c_117)
            refine tt_gI (pc := 288) rw_171_288 (g_o hG122 rfl) (v := (N.2.1 77 16)) c_124 (to_c (pc := 291) rw_171_291 (x := (1 : Int32)) rfl rfl (s_add (pc := 292) rw_171_292 (A := (N.2.1 77 16).toInt) (B := 1) rfl rfl (by omega) (fun v125 e126 => s_pI (pc := 293) rw_171_293 hG122 rfl (fun M128 W127 => ?_))))
            have hG129 := g_w hG122 W127 (A := v125.toInt) rfl (lo := 0) (hi := 12) rfl rfl (by omega) (by decide)
            have F130 := FR.w F123 W127 (show 77 = 77 ∧ (16 = 4 ∨ 16 = 5 ∨ 7 ≤ 16 ∧ 16 ≤ 10 ∨ 16 = 16) ∨ 85 ≤ 77 ∧ 77 ≤ 87 ∧ 12 ≤ 16 by decide)
            have j_131 := WR_word (M1 := M128) (n := ((M102.2.1 77 16).toInt).toNat) (f := x1) j_105 (by omega) (W_n W127 (by omega) (W_l W120 (W_n W113 (by omega) rfl))) (fun i => (W_n W127 (by omega) (W_l W120 (W_n W113 (by omega) rfl)))) (fun i z => (W_n W127 (by omega) (W_l W120 (W_n W113 (by omega) rfl)))) (by rw [show 12 + ((M102.2.1 77 16).toInt).toNat = (v111.toInt).toNat by omega]; exact (W_n W127 (by omega) (W_l W120 (W_e W113)))) (by have z := congrArg Int32.toInt (W_e W127); omega) (by omega) j_110
            refine to_c (pc := 296) rw_171_296 (x := (1 : Int32)) rfl rfl (s_r1 (pc := 297) rw_171_297 (A := 1) rfl (by decide) ?_)
            have k_132 : (1 : Int32).toInt = 1 := rfl
            have c_133 : M128.2.1 77 7 = (N.2.1 77 7) := (W_n W127 (by decide) (W_l W120 (W_n W113 (fun z => absurd z.1 (by decide)) (W_n W101 (fun z => absurd z.1 (by decide)) rfl))))
            have t_134 : (M128.2.1 77 7).toInt = (N.2.1 77 7).toInt := congrArg Int32.toInt c_133
            have c_135 : M128.2.1 77 6 = (N.2.1 77 6) := (W_n W127 (by decide) (W_l W120 (W_n W113 (fun z => absurd z.1 (by decide)) (W_n W101 (fun z => absurd z.1 (by decide)) rfl))))
            have t_136 : (M128.2.1 77 6).toInt = (N.2.1 77 6).toInt := congrArg Int32.toInt c_135
            have c_137 : M128.2.1 77 8 = (N.2.1 77 8) := (W_n W127 (by decide) (W_l W120 (W_n W113 (fun z => absurd z.1 (by decide)) (W_n W101 (fun z => absurd z.1 (by decide)) rfl))))
            have t_138 : (M128.2.1 77 8).toInt = (N.2.1 77 8).toInt := congrArg Int32.toInt c_137
            exact h (1 : Int32) M128 hG129 F130 (by decide) (by decide) (by omega) (by omega) (by omega) j_131
          · refine to_an (pc := 240) rw_171_240 rfl (to_c (pc := 241) rw_171_241 (x := (5 : Int32)) rfl rfl (s_v (pc := 242) rw_171_242 (dp0 hd (by decide)) (ls0 := [.ref 77, .int (5 : Int32)]) rfl (Nat.le_of_ble_eq_true rfl) (Nat.le_of_ble_eq_true rfl) rfl (to_rc rfl rfl rfl (g_o hG rfl)) rfl (to_an (pc := 0) rw_152_0 rfl (to_in (pc := 1) rw_152_1 rfl (s_pI (pc := 2) rw_152_2 hG rfl (fun M140 W139 => ?_))))))
            have hG141 := g_wf hG W139 rfl rfl (by decide)
            have F142 := FR.w F0 W139 (show 77 = 77 ∧ (4 = 4 ∨ 4 = 5 ∨ 7 ≤ 4 ∧ 4 ≤ 10 ∨ 4 = 16) ∨ 85 ≤ 77 ∧ 77 ≤ 87 ∧ 12 ≤ 4 by decide)
            refine to_an (pc := 5) rw_152_5 rfl (to_an (pc := 6) rw_152_6 rfl ?_)
            have c_143 : M140.2.1 77 10 = (N.2.1 77 10) := (W_n W139 (by decide) rfl)
            have b_144 := g_b hG (a := 77) (i := 10) (lo := 0) (hi := 500) rfl rfl
            refine tt_gI (pc := 7) rw_152_7 (g_o hG141 rfl) (v := (N.2.1 77 10)) c_143 (s_pI (pc := 10) rw_152_10 hG141 rfl (fun M146 W145 => ?_))
            have hG147 := g_wf hG141 W145 rfl rfl (by decide)
            have F148 := FR.w F142 W145 (show 77 = 77 ∧ (5 = 4 ∨ 5 = 5 ∨ 7 ≤ 5 ∧ 5 ≤ 10 ∨ 5 = 16) ∨ 85 ≤ 77 ∧ 77 ≤ 87 ∧ 12 ≤ 5 by decide)
            refine to_c (pc := 13) rw_152_13 (x := (0 : Int32)) rfl rfl (s_r1 (pc := 14) rw_152_14 (A := 0) rfl (by decide) (s_r1 (pc := 245) rw_171_245 (A := 0) rfl (by decide) ?_))
            have k_149 : (0 : Int32).toInt = 0 := rfl
            have c_150 : M146.2.1 77 7 = (N.2.1 77 7) := (W_n W145 (by decide) (W_n W139 (by decide) rfl))
            have t_151 : (M146.2.1 77 7).toInt = (N.2.1 77 7).toInt := congrArg Int32.toInt c_150
            have c_152 : M146.2.1 77 6 = (N.2.1 77 6) := (W_n W145 (by decide) (W_n W139 (by decide) rfl))
            have t_153 : (M146.2.1 77 6).toInt = (N.2.1 77 6).toInt := congrArg Int32.toInt c_152
            have c_154 : M146.2.1 77 8 = (N.2.1 77 8) := (W_n W145 (by decide) (W_n W139 (by decide) rfl))
            have t_155 : (M146.2.1 77 8).toInt = (N.2.1 77 8).toInt := congrArg Int32.toInt c_154
            have j_156 := (WR_f (fun a i z => W_n W145 (by /-r77,5-/ omega) rfl) (WR_f (fun a i z => W_n W139 (by /-r77,4-/ omega) rfl) g9))
            exact h (0 : Int32) M146 hG147 F148 (by decide) (by decide) (by omega) (by omega) (by omega) j_156
    · refine to_in (pc := 114) rw_171_114 rfl (to_an (pc := 115) rw_171_115 rfl (s_gR (pc := 116) rw_171_116 hG rfl (v := 84) rfl (to_c (pc := 119) rw_171_119 (x := (8 : Int32)) rfl rfl (to_in (pc := 121) rw_171_121 rfl (s_add (pc := 122) rw_171_122 (A := 8) (B := x1.toInt) rfl rfl (by omega) (fun v157 e158 => s_ial (pc := 123) rw_171_123 hG rfl (n := 16) rfl rfl (A := v157.toInt) rfl (by omega) (by omega) (lo := 0) (hi := 24) rfl rfl (fun v159 w_160 _ _ => b_ceq (pc := 124) rw_171_124 (A := x3.toInt) (B := v159.toInt) rfl rfl (fun h161 => ?_) (fun h161 => ?_))))))))
      · refine to_an (pc := 153) rw_171_153 rfl (to_c (pc := 154) rw_171_154 (x := (2 : Int32)) rfl rfl (s_v (pc := 155) rw_171_155 (dp0 hd (by decide)) (ls0 := [.ref 77, .int (2 : Int32)]) rfl (Nat.le_of_ble_eq_true rfl) (Nat.le_of_ble_eq_true rfl) rfl (to_rc rfl rfl rfl (g_o hG rfl)) rfl (to_an (pc := 0) rw_152_0 rfl (to_in (pc := 1) rw_152_1 rfl (s_pI (pc := 2) rw_152_2 hG rfl (fun M163 W162 => ?_))))))
        have hG164 := g_wf hG W162 rfl rfl (by decide)
        have F165 := FR.w F0 W162 (show 77 = 77 ∧ (4 = 4 ∨ 4 = 5 ∨ 7 ≤ 4 ∧ 4 ≤ 10 ∨ 4 = 16) ∨ 85 ≤ 77 ∧ 77 ≤ 87 ∧ 12 ≤ 4 by decide)
        refine to_an (pc := 5) rw_152_5 rfl (to_an (pc := 6) rw_152_6 rfl ?_)
        have c_166 : M163.2.1 77 10 = (N.2.1 77 10) := (W_n W162 (by decide) rfl)
        have b_167 := g_b hG (a := 77) (i := 10) (lo := 0) (hi := 500) rfl rfl
        refine tt_gI (pc := 7) rw_152_7 (g_o hG164 rfl) (v := (N.2.1 77 10)) c_166 (s_pI (pc := 10) rw_152_10 hG164 rfl (fun M169 W168 => ?_))
        have hG170 := g_wf hG164 W168 rfl rfl (by decide)
        have F171 := FR.w F165 W168 (show 77 = 77 ∧ (5 = 4 ∨ 5 = 5 ∨ 7 ≤ 5 ∧ 5 ≤ 10 ∨ 5 = 16) ∨ 85 ≤ 77 ∧ 77 ≤ 87 ∧ 12 ≤ 5 by decide)
        refine to_c (pc := 13) rw_152_13 (x := (0 : Int32)) rfl rfl (s_r1 (pc := 14) rw_152_14 (A := 0) rfl (by decide) (s_r1 (pc := 158) rw_171_158 (A := 0) rfl (by decide) ?_))
        have k_172 : (0 : Int32).toInt = 0 := rfl
        have c_173 : M169.2.1 77 7 = (N.2.1 77 7) := (W_n W168 (by decide) (W_n W162 (by decide) rfl))
        have t_174 : (M169.2.1 77 7).toInt = (N.2.1 77 7).toInt := congrArg Int32.toInt c_173
        have c_175 : M169.2.1 77 6 = (N.2.1 77 6) := (W_n W168 (by decide) (W_n W162 (by decide) rfl))
        have t_176 : (M169.2.1 77 6).toInt = (N.2.1 77 6).toInt := congrArg Int32.toInt c_175
        have c_177 : M169.2.1 77 8 = (N.2.1 77 8) := (W_n W168 (by decide) (W_n W162 (by decide) rfl))
        have t_178 : (M169.2.1 77 8).toInt = (N.2.1 77 8).toInt := congrArg Int32.toInt c_177
        have j_179 := (WR_f (fun a i z => W_n W168 (by /-r77,5-/ omega) rfl) (WR_f (fun a i z => W_n W162 (by /-r77,4-/ omega) rfl) g9))
        exact h (0 : Int32) M169 hG170 F171 (by decide) (by decide) (by omega) (by omega) (by omega) j_179
      · refine to_an (pc := 127) rw_171_127 rfl (tt_gI (pc := 128) rw_171_128 (g_o hG rfl) (v := (N.2.1 77 9)) rfl (to_an (pc := 131) rw_171_131 rfl (s_gR (pc := 132) rw_171_132 hG rfl (v := 83) rfl (to_c (pc := 135) rw_171_135 (x := (8 : Int32)) rfl rfl (to_in (pc := 137) rw_171_137 rfl (s_add (pc := 138) rw_171_138 (A := 8) (B := x1.toInt) rfl rfl (by omega) (fun v180 e181 => s_ial (pc := 139) rw_171_139 hG rfl (n := 16) rfl rfl (A := v180.toInt) rfl (by omega) (by omega) (lo := 0) (hi := 63) rfl rfl (fun v182 w_183 _ _ => to_an (pc := 140) rw_171_140 rfl (s_gR (pc := 141) rw_171_141 hG rfl (v := 82) rfl (to_c (pc := 144) rw_171_144 (x := (8 : Int32)) rfl rfl (to_in (pc := 146) rw_171_146 rfl ?_)))))))))))
        refine s_add (pc := 147) rw_171_147 (A := 8) (B := x1.toInt) rfl rfl (by omega) (fun v184 e185 => s_ial (pc := 148) rw_171_148 hG rfl (n := 16) rfl rfl (A := v184.toInt) rfl (by omega) (by omega) (lo := 0) (hi := 59) rfl rfl (fun v186 w_187 _ _ => s_sub (pc := 149) rw_171_149 (A := v182.toInt) (B := v186.toInt) rfl rfl (by omega) (fun v188 e189 => b_cle (pc := 150) rw_171_150 (A := (N.2.1 77 9).toInt) (B := v188.toInt) rfl rfl (fun h190 => ?_) (fun h190 => ?_))))
        · refine to_l (pc := 159) rw_171_159 rfl rfl rfl (to_an (pc := 161) rw_171_161 rfl (s_gR (pc := 162) rw_171_162 hG rfl (v := 82) rfl (to_c (pc := 165) rw_171_165 (x := (8 : Int32)) rfl rfl (to_in (pc := 167) rw_171_167 rfl (s_add (pc := 168) rw_171_168 (A := 8) (B := x1.toInt) rfl rfl (by omega) (fun v191 e192 => s_ial (pc := 169) rw_171_169 hG rfl (n := 16) rfl rfl (A := v191.toInt) rfl (by omega) (by omega) (lo := 0) (hi := 59) rfl rfl (fun v193 w_194 _ _ => to_an (pc := 170) rw_171_170 rfl (tt_gI (pc := 171) rw_171_171 (g_o hG rfl) (v := (N.2.1 77 9)) rfl ?_))))))))
          have i_197 := i_of (x := (N.2.1 77 9))
          refine s_add (pc := 174) rw_171_174 (A := v193.toInt) (B := (N.2.1 77 9).toInt) rfl rfl (by omega) (fun v195 e196 => s_s (pc := 175) rw_171_175 (dp0 hd (by decide)) (ls0 := [.long y4, .null, .int v195]) rfl (Nat.le_of_ble_eq_true rfl) (Nat.le_of_ble_eq_true rfl) rfl (to_rcs rfl rfl) rfl (to_ln (pc := 0) rw_150_0 rfl rfl rfl (to_in (pc := 1) rw_150_1 rfl (s_anyS (pc := 2) rw_150_2 (fun _ _ => rfl) (fun l198 => s_cl (pc := 3) rw_150_3 rfl (fun l199 => s_anyL (pc := 4) rw_150_4 (fun _ _ => rfl) (fun l200 => s_cl (pc := 5) rw_150_5 rfl (fun l201 => s_lcmp (pc := 6) rw_150_6 (fun v202 => b_ine (pc := 7) rw_150_7 (A := v202.toInt) rfl (fun h203 => ?_) (fun h203 => ?_))))))))))
          · refine to_c (pc := 14) rw_150_14 (x := (0 : Int32)) rfl rfl (s_r1 (pc := 15) rw_150_15 (A := 0) rfl (by decide) (b_ieq_t (pc := 178) rw_171_178 (A := 0) rfl (by decide) (to_l (pc := 187) rw_171_187 rfl rfl rfl (s_cl (pc := 189) rw_171_189 rfl (fun l204 => to_an (pc := 190) rw_171_190 rfl (s_gR (pc := 191) rw_171_191 hG rfl (v := 82) rfl (to_c (pc := 194) rw_171_194 (x := (8 : Int32)) rfl rfl (to_in (pc := 196) rw_171_196 rfl (s_add (pc := 197) rw_171_197 (A := 8) (B := x1.toInt) rfl rfl (by omega) (fun v205 e206 => s_ial (pc := 198) rw_171_198 hG rfl (n := 16) rfl rfl (A := v205.toInt) rfl (by omega) (by omega) (lo := 0) (hi := 59) rfl rfl (fun v207 w_208 _ _ => to_an (pc := 199) rw_171_199 rfl ?_)))))))))))
            refine tt_gI (pc := 200) rw_171_200 (g_o hG rfl) (v := (N.2.1 77 9)) rfl (s_add (pc := 203) rw_171_203 (A := v207.toInt) (B := (N.2.1 77 9).toInt) rfl rfl (by omega) (fun v209 e210 => s_anyS (pc := 204) rw_171_204 (fun _ _ => rfl) (fun l211 => s_anyL (pc := 205) rw_171_205 (fun _ _ => rfl) (fun l212 => to_ls (pc := 206) rw_171_206 (ls2 := [.ref 77, .int x1, .int x2, .int x3, .long l212, .null]) rfl rfl (s_incx (pc := 208) rw_171_208 (ls2 := fun v => [.ref 77, .int x1, .int x2, .int v, .long l212, .null]) rfl rfl (fun _ => rfl) (fun v213 => to_an (pc := 211) rw_171_211 rfl (s_v (pc := 212) rw_171_212 (dp0 hd (by decide)) (ls0 := [.ref 77]) rfl (Nat.le_of_ble_eq_true rfl) (Nat.le_of_ble_eq_true rfl) rfl (to_rc rfl rfl rfl (g_o hG rfl)) rfl (C_156 hX (dp1 hd (by decide)) hG (by omega)  (fun M220 hG216 F215 p_217 p_218 p_219 => ?_)))))))))
            have F221 := FR.c F0 F215 tg_58
            have b_222 := g_b hG216 (a := 77) (i := 7) (lo := 0) (hi := 500) rfl rfl
            have c_223 : M220.2.1 77 6 = (N.2.1 77 6) := (F_n F215 (show ¬ (77 = 77 ∧ 7 ≤ 6 ∧ 6 ≤ 10) by decide) rfl)
            have t_224 : (M220.2.1 77 6).toInt = (N.2.1 77 6).toInt := congrArg Int32.toInt c_223
            have b_225 := g_b hG216 (a := 77) (i := 8) (lo := 0) (hi := 5) rfl rfl
            refine to_go (pc := 215) rw_171_215 ?_
            have c_226 : M220.2.1 77 15 = (N.2.1 77 15) := (F_n F215 (show ¬ (77 = 77 ∧ 7 ≤ 15 ∧ 15 ≤ 10) by decide) rfl)
            have t_227 : (M220.2.1 77 15).toInt = (N.2.1 77 15).toInt := congrArg Int32.toInt c_226
            have c_228 : M220.2.1 77 16 = (N.2.1 77 16) := (F_n F215 (show ¬ (77 = 77 ∧ 7 ≤ 16 ∧ 16 ≤ 10) by decide) rfl)
            have t_229 : (M220.2.1 77 16).toInt = (N.2.1 77 16).toInt := congrArg Int32.toInt c_228
            have j_230 : (M220.2.1 81 (8 + (x1.toInt).toNat)).toInt = 3 := by rw [(F_n F215 (show ¬ (81 = 77 ∧ 7 ≤ (8 + (x1.toInt).toNat) ∧ (8 + (x1.toInt).toNat) ≤ 10) by omega) rfl)]; exact g7
            have j_231 := (WR_f (tg_222 F215) g9)
            exact ih M220 x1 x2 v213 l212 hG216 F221 (by omega) (by omega) (by omega) (by omega) (by omega) (by omega) j_230 (by omega) j_231 (by omega)
          · refine to_c (pc := 10) rw_150_10 (x := (1 : Int32)) rfl rfl (to_go (pc := 11) rw_150_11 (s_r1 (pc := 15) rw_150_15 (A := 1) rfl (by decide) (b_ieq_f (pc := 178) rw_171_178 (A := 1) rfl (by decide) (to_an (pc := 181) rw_171_181 rfl (to_c (pc := 182) rw_171_182 (x := (3 : Int32)) rfl rfl (s_v (pc := 183) rw_171_183 (dp0 hd (by decide)) (ls0 := [.ref 77, .int (3 : Int32)]) rfl (Nat.le_of_ble_eq_true rfl) (Nat.le_of_ble_eq_true rfl) rfl (to_rc rfl rfl rfl (g_o hG rfl)) rfl (to_an (pc := 0) rw_152_0 rfl (to_in (pc := 1) rw_152_1 rfl (s_pI (pc := 2) rw_152_2 hG rfl (fun M233 W232 => ?_))))))))))
            have hG234 := g_wf hG W232 rfl rfl (by decide)
            have F235 := FR.w F0 W232 (show 77 = 77 ∧ (4 = 4 ∨ 4 = 5 ∨ 7 ≤ 4 ∧ 4 ≤ 10 ∨ 4 = 16) ∨ 85 ≤ 77 ∧ 77 ≤ 87 ∧ 12 ≤ 4 by decide)
            refine to_an (pc := 5) rw_152_5 rfl (to_an (pc := 6) rw_152_6 rfl ?_)
            have c_236 : M233.2.1 77 10 = (N.2.1 77 10) := (W_n W232 (by decide) rfl)
            have b_237 := g_b hG (a := 77) (i := 10) (lo := 0) (hi := 500) rfl rfl
            refine tt_gI (pc := 7) rw_152_7 (g_o hG234 rfl) (v := (N.2.1 77 10)) c_236 (s_pI (pc := 10) rw_152_10 hG234 rfl (fun M239 W238 => ?_))
            have hG240 := g_wf hG234 W238 rfl rfl (by decide)
            have F241 := FR.w F235 W238 (show 77 = 77 ∧ (5 = 4 ∨ 5 = 5 ∨ 7 ≤ 5 ∧ 5 ≤ 10 ∨ 5 = 16) ∨ 85 ≤ 77 ∧ 77 ≤ 87 ∧ 12 ≤ 5 by decide)
            refine to_c (pc := 13) rw_152_13 (x := (0 : Int32)) rfl rfl (s_r1 (pc := 14) rw_152_14 (A := 0) rfl (by decide) (s_r1 (pc := 186) rw_171_186 (A := 0) rfl (by decide) ?_))
            have k_242 : (0 : Int32).toInt = 0 := rfl
            have c_243 : M239.2.1 77 7 = (N.2.1 77 7) := (W_n W238 (by decide) (W_n W232 (by decide) rfl))
            have t_244 : (M239.2.1 77 7).toInt = (N.2.1 77 7).toInt := congrArg Int32.toInt c_243
            have c_245 : M239.2.1 77 6 = (N.2.1 77 6) := (W_n W238 (by decide) (W_n W232 (by decide) rfl))
            have t_246 : (M239.2.1 77 6).toInt = (N.2.1 77 6).toInt := congrArg Int32.toInt c_245
            have c_247 : M239.2.1 77 8 = (N.2.1 77 8) := (W_n W238 (by decide) (W_n W232 (by decide) rfl))
            have t_248 : (M239.2.1 77 8).toInt = (N.2.1 77 8).toInt := congrArg Int32.toInt c_247
            have j_249 := (WR_f (fun a i z => W_n W238 (by /-r77,5-/ omega) rfl) (WR_f (fun a i z => W_n W232 (by /-r77,4-/ omega) rfl) g9))
            exact h (0 : Int32) M239 hG240 F241 (by decide) (by decide) (by omega) (by omega) (by omega) j_249
        · refine to_an (pc := 153) rw_171_153 rfl (to_c (pc := 154) rw_171_154 (x := (2 : Int32)) rfl rfl (s_v (pc := 155) rw_171_155 (dp0 hd (by decide)) (ls0 := [.ref 77, .int (2 : Int32)]) rfl (Nat.le_of_ble_eq_true rfl) (Nat.le_of_ble_eq_true rfl) rfl (to_rc rfl rfl rfl (g_o hG rfl)) rfl (to_an (pc := 0) rw_152_0 rfl (to_in (pc := 1) rw_152_1 rfl (s_pI (pc := 2) rw_152_2 hG rfl (fun M251 W250 => ?_))))))
          have hG252 := g_wf hG W250 rfl rfl (by decide)
          have F253 := FR.w F0 W250 (show 77 = 77 ∧ (4 = 4 ∨ 4 = 5 ∨ 7 ≤ 4 ∧ 4 ≤ 10 ∨ 4 = 16) ∨ 85 ≤ 77 ∧ 77 ≤ 87 ∧ 12 ≤ 4 by decide)
          refine to_an (pc := 5) rw_152_5 rfl (to_an (pc := 6) rw_152_6 rfl ?_)
          have c_254 : M251.2.1 77 10 = (N.2.1 77 10) := (W_n W250 (by decide) rfl)
          have b_255 := g_b hG (a := 77) (i := 10) (lo := 0) (hi := 500) rfl rfl
          refine tt_gI (pc := 7) rw_152_7 (g_o hG252 rfl) (v := (N.2.1 77 10)) c_254 (s_pI (pc := 10) rw_152_10 hG252 rfl (fun M257 W256 => ?_))
          have hG258 := g_wf hG252 W256 rfl rfl (by decide)
          have F259 := FR.w F253 W256 (show 77 = 77 ∧ (5 = 4 ∨ 5 = 5 ∨ 7 ≤ 5 ∧ 5 ≤ 10 ∨ 5 = 16) ∨ 85 ≤ 77 ∧ 77 ≤ 87 ∧ 12 ≤ 5 by decide)
          refine to_c (pc := 13) rw_152_13 (x := (0 : Int32)) rfl rfl (s_r1 (pc := 14) rw_152_14 (A := 0) rfl (by decide) (s_r1 (pc := 158) rw_171_158 (A := 0) rfl (by decide) ?_))
          have k_260 : (0 : Int32).toInt = 0 := rfl
          have c_261 : M257.2.1 77 7 = (N.2.1 77 7) := (W_n W256 (by decide) (W_n W250 (by decide) rfl))
          have t_262 : (M257.2.1 77 7).toInt = (N.2.1 77 7).toInt := congrArg Int32.toInt c_261
          have c_263 : M257.2.1 77 6 = (N.2.1 77 6) := (W_n W256 (by decide) (W_n W250 (by decide) rfl))
          have t_264 : (M257.2.1 77 6).toInt = (N.2.1 77 6).toInt := congrArg Int32.toInt c_263
          have c_265 : M257.2.1 77 8 = (N.2.1 77 8) := (W_n W256 (by decide) (W_n W250 (by decide) rfl))
          have t_266 : (M257.2.1 77 8).toInt = (N.2.1 77 8).toInt := congrArg Int32.toInt c_265
          have j_267 := (WR_f (fun a i z => W_n W256 (by /-r77,5-/ omega) rfl) (WR_f (fun a i z => W_n W250 (by /-r77,4-/ omega) rfl) g9))
          exact h (0 : Int32) M257 hG258 F259 (by decide) (by decide) (by omega) (by omega) (by omega) j_267
set_option maxRecDepth 4000 in
set_option maxHeartbeats 0 in
theorem C_171 {X : mm_X} {d : Nat} {M : mm_M} {Q : Option Value → mm_M → Prop} (hX : g_X X) (hd : 3 ≤ d) (hG : g_G M) (q1 : (M.2.1 77 7).toInt ≤ (M.2.1 77 6).toInt) (q2 : WR M) (h : ∀ (r : Int32) (M1 : mm_M), g_G M1 → FR md_wl M M1 → (0 ≤ r.toInt) → (r.toInt ≤ 1) → ((M1.2.1 77 7).toInt ≤ (M1.2.1 77 6).toInt) → ((M.2.1 77 7).toInt ≤ (M1.2.1 77 7).toInt) → (r.toInt = 1 → (M1.2.1 77 8).toInt = 0 ∨ (M.2.1 77 7).toInt < (M1.2.1 77 7).toInt) → WR M1 → Q (some (.int r)) M1) : mm_T X d 170 0 [.ref 77, .null, .null, .null, .null, .null] [] M Q := by
  have F0 : FR md_wl M M := FR.rf
  have b_268 := g_b hG (a := 77) (i := 7) (lo := 0) (hi := 500) rfl rfl
  have b_269 := g_b hG (a := 77) (i := 6) (lo := 0) (hi := 500) rfl rfl
  refine to_an (pc := 0) rw_171_0 rfl ?_
  have b_270 := g_b hG (a := 77) (i := 16) (lo := 0) (hi := 12) rfl rfl
  refine tt_gI (pc := 1) rw_171_1 (g_o hG rfl) (v := (M.2.1 77 16)) rfl (to_c (pc := 4) rw_171_4 (x := (12 : Int32)) rfl rfl (b_cne (pc := 6) rw_171_6 (A := (M.2.1 77 16).toInt) (B := 12) rfl rfl (fun h271 => ?_) (fun h271 => ?_)))
  · refine to_an (pc := 15) rw_171_15 rfl (s_v (pc := 16) rw_171_16 (dp0 hd (by decide)) (ls0 := [.ref 77]) rfl (Nat.le_of_ble_eq_true rfl) (Nat.le_of_ble_eq_true rfl) rfl (to_rc rfl rfl rfl (g_o hG rfl)) rfl (C_156 hX (dp1 hd (by decide)) hG (by omega)  (fun M277 hG273 F272 p_274 p_275 p_276 => ?_)))
    have F278 := FR.c F0 F272 tg_58
    have b_279 := g_b hG273 (a := 77) (i := 7) (lo := 0) (hi := 500) rfl rfl
    have c_280 : M277.2.1 77 6 = (M.2.1 77 6) := (F_n F272 (show ¬ (77 = 77 ∧ 7 ≤ 6 ∧ 6 ≤ 10) by decide) rfl)
    have t_281 : (M277.2.1 77 6).toInt = (M.2.1 77 6).toInt := congrArg Int32.toInt c_280
    have b_282 := g_b hG273 (a := 77) (i := 8) (lo := 0) (hi := 5) rfl rfl
    refine to_an (pc := 19) rw_171_19 rfl (tt_gI (pc := 20) rw_171_20 (g_o hG273 rfl) (v := (M277.2.1 77 8)) rfl (to_c (pc := 23) rw_171_23 (x := (2 : Int32)) rfl rfl (b_ceq (pc := 24) rw_171_24 (A := (M277.2.1 77 8).toInt) (B := 2) rfl rfl (fun h283 => ?_) (fun h283 => ?_))))
    · refine to_an (pc := 33) rw_171_33 rfl (to_an (pc := 34) rw_171_34 rfl (tt_gI (pc := 35) rw_171_35 (g_o hG273 rfl) (v := (M277.2.1 77 9)) rfl (s_v (pc := 38) rw_171_38 (dp0 hd (by decide)) (ls0 := [.ref 77, .int (M277.2.1 77 9), .null]) rfl (Nat.le_of_ble_eq_true rfl) (Nat.le_of_ble_eq_true rfl) rfl (to_rc rfl rfl rfl (g_o hG273 rfl)) rfl ?_)))
      have c_284 : M277.2.1 77 15 = (M.2.1 77 15) := (F_n F272 (show ¬ (77 = 77 ∧ 7 ≤ 15 ∧ 15 ≤ 10) by decide) rfl)
      have b_285 := g_b hG (a := 77) (i := 15) (lo := 0) (hi := 8) rfl rfl
      have t_286 : (M277.2.1 77 15).toInt = (M.2.1 77 15).toInt := congrArg Int32.toInt c_284
      refine C_166 hX (dp1 hd (by decide)) hG273 (n := (M277.2.1 77 9)) (fun r287 M293 hG289 F288 p_290 p_291 p_292 => ?_)
      have F294 := FR.c F278 F288 tg_59
      refine to_isn (pc := 41) rw_171_41 (ls2 := [.ref 77, .int r287, .null, .null, .null, .null]) rfl rfl (to_in (pc := 42) rw_171_42 rfl (b_ilt (pc := 43) rw_171_43 (A := r287.toInt) rfl (fun h295 => ?_) (fun h295 => ?_)))
      · refine to_an (pc := 59) rw_171_59 rfl (to_c (pc := 60) rw_171_60 (x := (4 : Int32)) rfl rfl (s_v (pc := 61) rw_171_61 (dp0 hd (by decide)) (ls0 := [.ref 77, .int (4 : Int32)]) rfl (Nat.le_of_ble_eq_true rfl) (Nat.le_of_ble_eq_true rfl) rfl (to_rc rfl rfl rfl (g_o hG289 rfl)) rfl (to_an (pc := 0) rw_152_0 rfl (to_in (pc := 1) rw_152_1 rfl (s_pI (pc := 2) rw_152_2 hG289 rfl (fun M297 W296 => ?_))))))
        have hG298 := g_wf hG289 W296 rfl rfl (by decide)
        have F299 := FR.w F294 W296 (show 77 = 77 ∧ (4 = 4 ∨ 4 = 5 ∨ 7 ≤ 4 ∧ 4 ≤ 10 ∨ 4 = 16) ∨ 85 ≤ 77 ∧ 77 ≤ 87 ∧ 12 ≤ 4 by decide)
        refine to_an (pc := 5) rw_152_5 rfl (to_an (pc := 6) rw_152_6 rfl ?_)
        have c_300 : M297.2.1 77 10 = (M277.2.1 77 10) := (W_n W296 (by decide) (F_n F288 (show ¬ (77 < 0) by decide) rfl))
        have b_301 := g_b hG273 (a := 77) (i := 10) (lo := 0) (hi := 500) rfl rfl
        refine tt_gI (pc := 7) rw_152_7 (g_o hG298 rfl) (v := (M277.2.1 77 10)) c_300 (s_pI (pc := 10) rw_152_10 hG298 rfl (fun M303 W302 => ?_))
        have hG304 := g_wf hG298 W302 rfl rfl (by decide)
        have F305 := FR.w F299 W302 (show 77 = 77 ∧ (5 = 4 ∨ 5 = 5 ∨ 7 ≤ 5 ∧ 5 ≤ 10 ∨ 5 = 16) ∨ 85 ≤ 77 ∧ 77 ≤ 87 ∧ 12 ≤ 5 by decide)
        refine to_c (pc := 13) rw_152_13 (x := (0 : Int32)) rfl rfl (s_r1 (pc := 14) rw_152_14 (A := 0) rfl (by decide) (s_r1 (pc := 64) rw_171_64 (A := 0) rfl (by decide) ?_))
        have k_306 : (0 : Int32).toInt = 0 := rfl
        have c_307 : M303.2.1 77 7 = (M277.2.1 77 7) := (W_n W302 (by decide) (W_n W296 (by decide) (F_n F288 (show ¬ (77 < 0) by decide) rfl)))
        have t_308 : (M303.2.1 77 7).toInt = (M277.2.1 77 7).toInt := congrArg Int32.toInt c_307
        have c_309 : M303.2.1 77 6 = (M.2.1 77 6) := (W_n W302 (by decide) (W_n W296 (by decide) (F_n F288 (show ¬ (77 < 0) by decide) c_280)))
        have t_310 : (M303.2.1 77 6).toInt = (M.2.1 77 6).toInt := congrArg Int32.toInt c_309
        have c_311 : M303.2.1 77 8 = (M277.2.1 77 8) := (W_n W302 (by decide) (W_n W296 (by decide) (F_n F288 (show ¬ (77 < 0) by decide) rfl)))
        have t_312 : (M303.2.1 77 8).toInt = (M277.2.1 77 8).toInt := congrArg Int32.toInt c_311
        have j_313 := (WR_f (fun a i z => W_n W302 (by /-r77,5-/ omega) rfl) (WR_f (fun a i z => W_n W296 (by /-r77,4-/ omega) rfl) (WR_f (tg_219 F288) (WR_f (tg_222 F272) q2))))
        exact h (0 : Int32) M303 hG304 F305 (by decide) (by decide) (by omega) (by omega) (by omega) j_313
      · refine to_an (pc := 46) rw_171_46 rfl (s_gR (pc := 47) rw_171_47 hG289 rfl (v := 81) rfl (to_c (pc := 50) rw_171_50 (x := (8 : Int32)) rfl rfl (to_in (pc := 52) rw_171_52 rfl (s_add (pc := 53) rw_171_53 (A := 8) (B := r287.toInt) rfl rfl (by omega) (fun v314 e315 => s_ial (pc := 54) rw_171_54 hG289 rfl (n := 16) rfl rfl (A := v314.toInt) rfl (by omega) (by omega) (lo := 0) (hi := 3) rfl rfl (fun v316 w_317 _ _ => to_c (pc := 55) rw_171_55 (x := (3 : Int32)) rfl rfl (b_ceq (pc := 56) rw_171_56 (A := v316.toInt) (B := 3) rfl rfl (fun h318 => ?_) (fun h318 => ?_))))))))
        · refine to_an (pc := 65) rw_171_65 rfl (s_v (pc := 66) rw_171_66 (dp0 hd (by decide)) (ls0 := [.ref 77]) rfl (Nat.le_of_ble_eq_true rfl) (Nat.le_of_ble_eq_true rfl) rfl (to_rc rfl rfl rfl (g_o hG289 rfl)) rfl ?_)
          have c_319 : M293.2.1 77 7 = (M277.2.1 77 7) := (F_n F288 (show ¬ (77 < 0) by decide) rfl)
          have t_320 : (M293.2.1 77 7).toInt = (M277.2.1 77 7).toInt := congrArg Int32.toInt c_319
          have c_321 : M293.2.1 77 6 = (M.2.1 77 6) := (F_n F288 (show ¬ (77 < 0) by decide) c_280)
          have t_322 : (M293.2.1 77 6).toInt = (M.2.1 77 6).toInt := congrArg Int32.toInt c_321
          refine C_156 hX (dp1 hd (by decide)) hG289 (by omega)  (fun M328 hG324 F323 p_325 p_326 p_327 => ?_)
          have F329 := FR.c F294 F323 tg_58
          have b_330 := g_b hG324 (a := 77) (i := 7) (lo := 0) (hi := 500) rfl rfl
          have c_331 : M328.2.1 77 6 = (M.2.1 77 6) := (F_n F323 (show ¬ (77 = 77 ∧ 7 ≤ 6 ∧ 6 ≤ 10) by decide) c_321)
          have t_332 : (M328.2.1 77 6).toInt = (M.2.1 77 6).toInt := congrArg Int32.toInt c_331
          have b_333 := g_b hG324 (a := 77) (i := 8) (lo := 0) (hi := 5) rfl rfl
          refine to_an (pc := 69) rw_171_69 rfl (s_v (pc := 70) rw_171_70 (dp0 hd (by decide)) (ls0 := [.ref 77]) rfl (Nat.le_of_ble_eq_true rfl) (Nat.le_of_ble_eq_true rfl) rfl (to_rc rfl rfl rfl (g_o hG324 rfl)) rfl (C_169 hX (dp1 hd (by decide)) hG324  (fun r334 M339 hG336 F335 p_337 p_338 => ?_)))
          have F340 := FR.c F329 F335 tg_60
          refine b_ine (pc := 73) rw_171_73 (A := r334.toInt) rfl (fun h341 => ?_) (fun h341 => ?_)
          · refine to_an (pc := 78) rw_171_78 rfl ?_
            have c_342 : M339.2.1 77 9 = (M328.2.1 77 9) := (F_n F335 (show ¬ (77 = 77 ∧ (9 = 4 ∨ 9 = 5)) by decide) rfl)
            refine tt_gI (pc := 79) rw_171_79 (g_o hG336 rfl) (v := (M328.2.1 77 9)) c_342 (to_isn (pc := 82) rw_171_82 (ls2 := [.ref 77, .int r287, .int (M328.2.1 77 9), .null, .null, .null]) rfl rfl (to_an (pc := 83) rw_171_83 rfl (s_v (pc := 84) rw_171_84 (dp0 hd (by decide)) (ls0 := [.ref 77]) rfl (Nat.le_of_ble_eq_true rfl) (Nat.le_of_ble_eq_true rfl) rfl (to_rc rfl rfl rfl (g_o hG336 rfl)) rfl ?_)))
            have c_343 : M339.2.1 77 7 = (M328.2.1 77 7) := (F_n F335 (show ¬ (77 = 77 ∧ (7 = 4 ∨ 7 = 5)) by decide) rfl)
            have t_344 : (M339.2.1 77 7).toInt = (M328.2.1 77 7).toInt := congrArg Int32.toInt c_343
            have c_345 : M339.2.1 77 6 = (M.2.1 77 6) := (F_n F335 (show ¬ (77 = 77 ∧ (6 = 4 ∨ 6 = 5)) by decide) c_331)
            have t_346 : (M339.2.1 77 6).toInt = (M.2.1 77 6).toInt := congrArg Int32.toInt c_345
            refine C_156 hX (dp1 hd (by decide)) hG336 (by omega)  (fun M352 hG348 F347 p_349 p_350 p_351 => ?_)
            have F353 := FR.c F340 F347 tg_58
            have b_354 := g_b hG348 (a := 77) (i := 7) (lo := 0) (hi := 500) rfl rfl
            have c_355 : M352.2.1 77 6 = (M.2.1 77 6) := (F_n F347 (show ¬ (77 = 77 ∧ 7 ≤ 6 ∧ 6 ≤ 10) by decide) c_345)
            have t_356 : (M352.2.1 77 6).toInt = (M.2.1 77 6).toInt := congrArg Int32.toInt c_355
            have b_357 := g_b hG348 (a := 77) (i := 8) (lo := 0) (hi := 5) rfl rfl
            refine to_an (pc := 87) rw_171_87 rfl (tt_gI (pc := 88) rw_171_88 (g_o hG348 rfl) (v := (M352.2.1 77 8)) rfl (to_c (pc := 91) rw_171_91 (x := (3 : Int32)) rfl rfl (b_ceq (pc := 92) rw_171_92 (A := (M352.2.1 77 8).toInt) (B := 3) rfl rfl (fun h358 => ?_) (fun h358 => ?_))))
            · refine to_c (pc := 101) rw_171_101 (x := (0 : Int32)) rfl rfl (to_isn (pc := 102) rw_171_102 (ls2 := [.ref 77, .int r287, .int (M328.2.1 77 9), .int (0 : Int32), .null, .null]) rfl rfl (s_cl (pc := 103) rw_171_103 rfl (fun l359 => to_ls (pc := 104) rw_171_104 (ls2 := [.ref 77, .int r287, .int (M328.2.1 77 9), .int (0 : Int32), .long l359, .null]) rfl rfl ?_)))
              have k_360 : (0 : Int32).toInt = 0 := rfl
              have c_361 : M352.2.1 77 15 = (M.2.1 77 15) := (F_n F347 (show ¬ (77 = 77 ∧ 7 ≤ 15 ∧ 15 ≤ 10) by decide) (F_n F335 (show ¬ (77 = 77 ∧ (15 = 4 ∨ 15 = 5)) by decide) (F_n F323 (show ¬ (77 = 77 ∧ 7 ≤ 15 ∧ 15 ≤ 10) by decide) (F_n F288 (show ¬ (77 < 0) by decide) c_284))))
              have t_362 : (M352.2.1 77 15).toInt = (M.2.1 77 15).toInt := congrArg Int32.toInt c_361
              have c_363 : M352.2.1 77 16 = (M.2.1 77 16) := (F_n F347 (show ¬ (77 = 77 ∧ 7 ≤ 16 ∧ 16 ≤ 10) by decide) (F_n F335 (show ¬ (77 = 77 ∧ (16 = 4 ∨ 16 = 5)) by decide) (F_n F323 (show ¬ (77 = 77 ∧ 7 ≤ 16 ∧ 16 ≤ 10) by decide) (F_n F288 (show ¬ (77 < 0) by decide) (F_n F272 (show ¬ (77 = 77 ∧ 7 ≤ 16 ∧ 16 ≤ 10) by decide) rfl)))))
              have t_364 : (M352.2.1 77 16).toInt = (M.2.1 77 16).toInt := congrArg Int32.toInt c_363
              have j_365 : (M352.2.1 81 (8 + (r287.toInt).toNat)).toInt = 3 := by rw [show 8 + (r287.toInt).toNat = (v314.toInt).toNat by omega, (F_n F347 (show ¬ (81 = 77 ∧ 7 ≤ ((v314.toInt).toNat) ∧ ((v314.toInt).toNat) ≤ 10) by omega) (F_n F335 (show ¬ (81 = 77 ∧ (((v314.toInt).toNat) = 4 ∨ ((v314.toInt).toNat) = 5)) by omega) (F_n F323 (show ¬ (81 = 77 ∧ 7 ≤ ((v314.toInt).toNat) ∧ ((v314.toInt).toNat) ≤ 10) by omega) w_317)))]; omega
              have j_366 := (WR_f (tg_222 F347) (WR_f (tg_223 F335) (WR_f (tg_222 F323) (WR_f (tg_219 F288) (WR_f (tg_222 F272) q2)))))
              exact (T_171_0 hX hd q1 q2 h ((6 * (500 - (M352.2.1 77 7).toInt) + (M352.2.1 77 8).toInt).toNat + 1)) M352 r287 (M328.2.1 77 9) (0 : Int32) l359 hG348 F353 (by omega) (by omega) (by omega) (by omega) (by omega) (by omega) j_365 (by omega) j_366 (by omega)
            · refine to_an (pc := 95) rw_171_95 rfl (to_c (pc := 96) rw_171_96 (x := (1 : Int32)) rfl rfl (s_v (pc := 97) rw_171_97 (dp0 hd (by decide)) (ls0 := [.ref 77, .int (1 : Int32)]) rfl (Nat.le_of_ble_eq_true rfl) (Nat.le_of_ble_eq_true rfl) rfl (to_rc rfl rfl rfl (g_o hG348 rfl)) rfl (to_an (pc := 0) rw_152_0 rfl (to_in (pc := 1) rw_152_1 rfl (s_pI (pc := 2) rw_152_2 hG348 rfl (fun M368 W367 => ?_))))))
              have hG369 := g_wf hG348 W367 rfl rfl (by decide)
              have F370 := FR.w F353 W367 (show 77 = 77 ∧ (4 = 4 ∨ 4 = 5 ∨ 7 ≤ 4 ∧ 4 ≤ 10 ∨ 4 = 16) ∨ 85 ≤ 77 ∧ 77 ≤ 87 ∧ 12 ≤ 4 by decide)
              refine to_an (pc := 5) rw_152_5 rfl (to_an (pc := 6) rw_152_6 rfl ?_)
              have c_371 : M368.2.1 77 10 = (M352.2.1 77 10) := (W_n W367 (by decide) rfl)
              have b_372 := g_b hG348 (a := 77) (i := 10) (lo := 0) (hi := 500) rfl rfl
              refine tt_gI (pc := 7) rw_152_7 (g_o hG369 rfl) (v := (M352.2.1 77 10)) c_371 (s_pI (pc := 10) rw_152_10 hG369 rfl (fun M374 W373 => ?_))
              have hG375 := g_wf hG369 W373 rfl rfl (by decide)
              have F376 := FR.w F370 W373 (show 77 = 77 ∧ (5 = 4 ∨ 5 = 5 ∨ 7 ≤ 5 ∧ 5 ≤ 10 ∨ 5 = 16) ∨ 85 ≤ 77 ∧ 77 ≤ 87 ∧ 12 ≤ 5 by decide)
              refine to_c (pc := 13) rw_152_13 (x := (0 : Int32)) rfl rfl (s_r1 (pc := 14) rw_152_14 (A := 0) rfl (by decide) (s_r1 (pc := 100) rw_171_100 (A := 0) rfl (by decide) ?_))
              have k_377 : (0 : Int32).toInt = 0 := rfl
              have c_378 : M374.2.1 77 7 = (M352.2.1 77 7) := (W_n W373 (by decide) (W_n W367 (by decide) rfl))
              have t_379 : (M374.2.1 77 7).toInt = (M352.2.1 77 7).toInt := congrArg Int32.toInt c_378
              have c_380 : M374.2.1 77 6 = (M.2.1 77 6) := (W_n W373 (by decide) (W_n W367 (by decide) c_355))
              have t_381 : (M374.2.1 77 6).toInt = (M.2.1 77 6).toInt := congrArg Int32.toInt c_380
              have c_382 : M374.2.1 77 8 = (M352.2.1 77 8) := (W_n W373 (by decide) (W_n W367 (by decide) rfl))
              have t_383 : (M374.2.1 77 8).toInt = (M352.2.1 77 8).toInt := congrArg Int32.toInt c_382
              have j_384 := (WR_f (fun a i z => W_n W373 (by /-r77,5-/ omega) rfl) (WR_f (fun a i z => W_n W367 (by /-r77,4-/ omega) rfl) (WR_f (tg_222 F347) (WR_f (tg_223 F335) (WR_f (tg_222 F323) (WR_f (tg_219 F288) (WR_f (tg_222 F272) q2)))))))
              exact h (0 : Int32) M374 hG375 F376 (by decide) (by decide) (by omega) (by omega) (by omega) j_384
          · refine to_c (pc := 76) rw_171_76 (x := (0 : Int32)) rfl rfl (s_r1 (pc := 77) rw_171_77 (A := 0) rfl (by decide) ?_)
            have k_385 : (0 : Int32).toInt = 0 := rfl
            have c_386 : M339.2.1 77 7 = (M328.2.1 77 7) := (F_n F335 (show ¬ (77 = 77 ∧ (7 = 4 ∨ 7 = 5)) by decide) rfl)
            have t_387 : (M339.2.1 77 7).toInt = (M328.2.1 77 7).toInt := congrArg Int32.toInt c_386
            have c_388 : M339.2.1 77 6 = (M.2.1 77 6) := (F_n F335 (show ¬ (77 = 77 ∧ (6 = 4 ∨ 6 = 5)) by decide) c_331)
            have t_389 : (M339.2.1 77 6).toInt = (M.2.1 77 6).toInt := congrArg Int32.toInt c_388
            have c_390 : M339.2.1 77 8 = (M328.2.1 77 8) := (F_n F335 (show ¬ (77 = 77 ∧ (8 = 4 ∨ 8 = 5)) by decide) rfl)
            have t_391 : (M339.2.1 77 8).toInt = (M328.2.1 77 8).toInt := congrArg Int32.toInt c_390
            have j_392 := (WR_f (tg_223 F335) (WR_f (tg_222 F323) (WR_f (tg_219 F288) (WR_f (tg_222 F272) q2))))
            exact h (0 : Int32) M339 hG336 F340 (by decide) (by decide) (by omega) (by omega) (by omega) j_392
        · refine to_an (pc := 59) rw_171_59 rfl (to_c (pc := 60) rw_171_60 (x := (4 : Int32)) rfl rfl (s_v (pc := 61) rw_171_61 (dp0 hd (by decide)) (ls0 := [.ref 77, .int (4 : Int32)]) rfl (Nat.le_of_ble_eq_true rfl) (Nat.le_of_ble_eq_true rfl) rfl (to_rc rfl rfl rfl (g_o hG289 rfl)) rfl (to_an (pc := 0) rw_152_0 rfl (to_in (pc := 1) rw_152_1 rfl (s_pI (pc := 2) rw_152_2 hG289 rfl (fun M394 W393 => ?_))))))
          have hG395 := g_wf hG289 W393 rfl rfl (by decide)
          have F396 := FR.w F294 W393 (show 77 = 77 ∧ (4 = 4 ∨ 4 = 5 ∨ 7 ≤ 4 ∧ 4 ≤ 10 ∨ 4 = 16) ∨ 85 ≤ 77 ∧ 77 ≤ 87 ∧ 12 ≤ 4 by decide)
          refine to_an (pc := 5) rw_152_5 rfl (to_an (pc := 6) rw_152_6 rfl ?_)
          have c_397 : M394.2.1 77 10 = (M277.2.1 77 10) := (W_n W393 (by decide) (F_n F288 (show ¬ (77 < 0) by decide) rfl))
          have b_398 := g_b hG273 (a := 77) (i := 10) (lo := 0) (hi := 500) rfl rfl
          refine tt_gI (pc := 7) rw_152_7 (g_o hG395 rfl) (v := (M277.2.1 77 10)) c_397 (s_pI (pc := 10) rw_152_10 hG395 rfl (fun M400 W399 => ?_))
          have hG401 := g_wf hG395 W399 rfl rfl (by decide)
          have F402 := FR.w F396 W399 (show 77 = 77 ∧ (5 = 4 ∨ 5 = 5 ∨ 7 ≤ 5 ∧ 5 ≤ 10 ∨ 5 = 16) ∨ 85 ≤ 77 ∧ 77 ≤ 87 ∧ 12 ≤ 5 by decide)
          refine to_c (pc := 13) rw_152_13 (x := (0 : Int32)) rfl rfl (s_r1 (pc := 14) rw_152_14 (A := 0) rfl (by decide) (s_r1 (pc := 64) rw_171_64 (A := 0) rfl (by decide) ?_))
          have k_403 : (0 : Int32).toInt = 0 := rfl
          have c_404 : M400.2.1 77 7 = (M277.2.1 77 7) := (W_n W399 (by decide) (W_n W393 (by decide) (F_n F288 (show ¬ (77 < 0) by decide) rfl)))
          have t_405 : (M400.2.1 77 7).toInt = (M277.2.1 77 7).toInt := congrArg Int32.toInt c_404
          have c_406 : M400.2.1 77 6 = (M.2.1 77 6) := (W_n W399 (by decide) (W_n W393 (by decide) (F_n F288 (show ¬ (77 < 0) by decide) c_280)))
          have t_407 : (M400.2.1 77 6).toInt = (M.2.1 77 6).toInt := congrArg Int32.toInt c_406
          have c_408 : M400.2.1 77 8 = (M277.2.1 77 8) := (W_n W399 (by decide) (W_n W393 (by decide) (F_n F288 (show ¬ (77 < 0) by decide) rfl)))
          have t_409 : (M400.2.1 77 8).toInt = (M277.2.1 77 8).toInt := congrArg Int32.toInt c_408
          have j_410 := (WR_f (fun a i z => W_n W399 (by /-r77,5-/ omega) rfl) (WR_f (fun a i z => W_n W393 (by /-r77,4-/ omega) rfl) (WR_f (tg_219 F288) (WR_f (tg_222 F272) q2))))
          exact h (0 : Int32) M400 hG401 F402 (by decide) (by decide) (by omega) (by omega) (by omega) j_410
    · refine to_an (pc := 27) rw_171_27 rfl (to_c (pc := 28) rw_171_28 (x := (1 : Int32)) rfl rfl (s_v (pc := 29) rw_171_29 (dp0 hd (by decide)) (ls0 := [.ref 77, .int (1 : Int32)]) rfl (Nat.le_of_ble_eq_true rfl) (Nat.le_of_ble_eq_true rfl) rfl (to_rc rfl rfl rfl (g_o hG273 rfl)) rfl (to_an (pc := 0) rw_152_0 rfl (to_in (pc := 1) rw_152_1 rfl (s_pI (pc := 2) rw_152_2 hG273 rfl (fun M412 W411 => ?_))))))
      have hG413 := g_wf hG273 W411 rfl rfl (by decide)
      have F414 := FR.w F278 W411 (show 77 = 77 ∧ (4 = 4 ∨ 4 = 5 ∨ 7 ≤ 4 ∧ 4 ≤ 10 ∨ 4 = 16) ∨ 85 ≤ 77 ∧ 77 ≤ 87 ∧ 12 ≤ 4 by decide)
      refine to_an (pc := 5) rw_152_5 rfl (to_an (pc := 6) rw_152_6 rfl ?_)
      have c_415 : M412.2.1 77 10 = (M277.2.1 77 10) := (W_n W411 (by decide) rfl)
      have b_416 := g_b hG273 (a := 77) (i := 10) (lo := 0) (hi := 500) rfl rfl
      refine tt_gI (pc := 7) rw_152_7 (g_o hG413 rfl) (v := (M277.2.1 77 10)) c_415 (s_pI (pc := 10) rw_152_10 hG413 rfl (fun M418 W417 => ?_))
      have hG419 := g_wf hG413 W417 rfl rfl (by decide)
      have F420 := FR.w F414 W417 (show 77 = 77 ∧ (5 = 4 ∨ 5 = 5 ∨ 7 ≤ 5 ∧ 5 ≤ 10 ∨ 5 = 16) ∨ 85 ≤ 77 ∧ 77 ≤ 87 ∧ 12 ≤ 5 by decide)
      refine to_c (pc := 13) rw_152_13 (x := (0 : Int32)) rfl rfl (s_r1 (pc := 14) rw_152_14 (A := 0) rfl (by decide) (s_r1 (pc := 32) rw_171_32 (A := 0) rfl (by decide) ?_))
      have k_421 : (0 : Int32).toInt = 0 := rfl
      have c_422 : M418.2.1 77 7 = (M277.2.1 77 7) := (W_n W417 (by decide) (W_n W411 (by decide) rfl))
      have t_423 : (M418.2.1 77 7).toInt = (M277.2.1 77 7).toInt := congrArg Int32.toInt c_422
      have c_424 : M418.2.1 77 6 = (M.2.1 77 6) := (W_n W417 (by decide) (W_n W411 (by decide) c_280))
      have t_425 : (M418.2.1 77 6).toInt = (M.2.1 77 6).toInt := congrArg Int32.toInt c_424
      have c_426 : M418.2.1 77 8 = (M277.2.1 77 8) := (W_n W417 (by decide) (W_n W411 (by decide) rfl))
      have t_427 : (M418.2.1 77 8).toInt = (M277.2.1 77 8).toInt := congrArg Int32.toInt c_426
      have j_428 := (WR_f (fun a i z => W_n W417 (by /-r77,5-/ omega) rfl) (WR_f (fun a i z => W_n W411 (by /-r77,4-/ omega) rfl) (WR_f (tg_222 F272) q2)))
      exact h (0 : Int32) M418 hG419 F420 (by decide) (by decide) (by omega) (by omega) (by omega) j_428
  · refine to_an (pc := 9) rw_171_9 rfl (to_c (pc := 10) rw_171_10 (x := (2 : Int32)) rfl rfl (s_v (pc := 11) rw_171_11 (dp0 hd (by decide)) (ls0 := [.ref 77, .int (2 : Int32)]) rfl (Nat.le_of_ble_eq_true rfl) (Nat.le_of_ble_eq_true rfl) rfl (to_rc rfl rfl rfl (g_o hG rfl)) rfl (to_an (pc := 0) rw_152_0 rfl (to_in (pc := 1) rw_152_1 rfl (s_pI (pc := 2) rw_152_2 hG rfl (fun M430 W429 => ?_))))))
    have hG431 := g_wf hG W429 rfl rfl (by decide)
    have F432 := FR.w F0 W429 (show 77 = 77 ∧ (4 = 4 ∨ 4 = 5 ∨ 7 ≤ 4 ∧ 4 ≤ 10 ∨ 4 = 16) ∨ 85 ≤ 77 ∧ 77 ≤ 87 ∧ 12 ≤ 4 by decide)
    refine to_an (pc := 5) rw_152_5 rfl (to_an (pc := 6) rw_152_6 rfl ?_)
    have c_433 : M430.2.1 77 10 = (M.2.1 77 10) := (W_n W429 (by decide) rfl)
    have b_434 := g_b hG (a := 77) (i := 10) (lo := 0) (hi := 500) rfl rfl
    refine tt_gI (pc := 7) rw_152_7 (g_o hG431 rfl) (v := (M.2.1 77 10)) c_433 (s_pI (pc := 10) rw_152_10 hG431 rfl (fun M436 W435 => ?_))
    have hG437 := g_wf hG431 W435 rfl rfl (by decide)
    have F438 := FR.w F432 W435 (show 77 = 77 ∧ (5 = 4 ∨ 5 = 5 ∨ 7 ≤ 5 ∧ 5 ≤ 10 ∨ 5 = 16) ∨ 85 ≤ 77 ∧ 77 ≤ 87 ∧ 12 ≤ 5 by decide)
    refine to_c (pc := 13) rw_152_13 (x := (0 : Int32)) rfl rfl (s_r1 (pc := 14) rw_152_14 (A := 0) rfl (by decide) (s_r1 (pc := 14) rw_171_14 (A := 0) rfl (by decide) ?_))
    have k_439 : (0 : Int32).toInt = 0 := rfl
    have c_440 : M436.2.1 77 7 = (M.2.1 77 7) := (W_n W435 (by decide) (W_n W429 (by decide) rfl))
    have t_441 : (M436.2.1 77 7).toInt = (M.2.1 77 7).toInt := congrArg Int32.toInt c_440
    have c_442 : M436.2.1 77 6 = (M.2.1 77 6) := (W_n W435 (by decide) (W_n W429 (by decide) rfl))
    have t_443 : (M436.2.1 77 6).toInt = (M.2.1 77 6).toInt := congrArg Int32.toInt c_442
    have c_444 : M436.2.1 77 8 = (M.2.1 77 8) := (W_n W435 (by decide) (W_n W429 (by decide) rfl))
    have b_445 := g_b hG (a := 77) (i := 8) (lo := 0) (hi := 5) rfl rfl
    have t_446 : (M436.2.1 77 8).toInt = (M.2.1 77 8).toInt := congrArg Int32.toInt c_444
    have j_447 := (WR_f (fun a i z => W_n W435 (by /-r77,5-/ omega) rfl) (WR_f (fun a i z => W_n W429 (by /-r77,4-/ omega) rfl) q2))
    exact h (0 : Int32) M436 hG437 F438 (by decide) (by decide) (by omega) (by omega) (by omega) j_447
set_option maxRecDepth 4000 in
set_option maxHeartbeats 0 in
theorem C_172 {X : mm_X} {d : Nat} {M : mm_M} {Q : Option Value → mm_M → Prop} {x : Int32} (hX : g_X X) (hd : 4 ≤ d) (hG : g_G M) (q1 : (M.2.1 77 7).toInt ≤ (M.2.1 77 6).toInt) (q2 : 0 ≤ x.toInt) (q3 : x.toInt ≤ 1) (q4 : FA M) (q5 : WR M) (h : ∀ (r : Int32) (M1 : mm_M), g_G M1 → FR md_pl M M1 → (0 ≤ r.toInt) → (r.toInt ≤ 1) → ((M1.2.1 77 7).toInt ≤ (M1.2.1 77 6).toInt) → ((M.2.1 77 7).toInt ≤ (M1.2.1 77 7).toInt) → (r.toInt = 1 → (M1.2.1 77 8).toInt = 0 ∨ (M.2.1 77 7).toInt < (M1.2.1 77 7).toInt) → (r.toInt = 1 → ¬ (M.2.1 77 8).toInt = 0) → FA M1 → WR M1 → Q (some (.int r)) M1) : mm_T X d 171 0 [.ref 77, .int x] [] M Q := by
  have F0 : FR md_pl M M := FR.rf
  have b_1 := g_b hG (a := 77) (i := 7) (lo := 0) (hi := 500) rfl rfl
  have b_2 := g_b hG (a := 77) (i := 6) (lo := 0) (hi := 500) rfl rfl
  refine to_an (pc := 0) rw_172_0 rfl ?_
  have b_3 := g_b hG (a := 77) (i := 8) (lo := 0) (hi := 5) rfl rfl
  refine tt_gI (pc := 1) rw_172_1 (g_o hG rfl) (v := (M.2.1 77 8)) rfl (to_c (pc := 4) rw_172_4 (x := (1 : Int32)) rfl rfl (b_cne (pc := 5) rw_172_5 (A := (M.2.1 77 8).toInt) (B := 1) rfl rfl (fun h4 => ?_) (fun h4 => ?_)))
  · refine to_an (pc := 27) rw_172_27 rfl (to_c (pc := 28) rw_172_28 (x := (1 : Int32)) rfl rfl (s_v (pc := 29) rw_172_29 (dp0 hd (by decide)) (ls0 := [.ref 77, .int (1 : Int32)]) rfl (Nat.le_of_ble_eq_true rfl) (Nat.le_of_ble_eq_true rfl) rfl (to_rc rfl rfl rfl (g_o hG rfl)) rfl (to_an (pc := 0) rw_152_0 rfl (to_in (pc := 1) rw_152_1 rfl (s_pI (pc := 2) rw_152_2 hG rfl (fun M6 W5 => ?_))))))
    have hG7 := g_wf hG W5 rfl rfl (by decide)
    have F8 := FR.w F0 W5 (show 77 = 77 ∧ (4 = 4 ∨ 4 = 5 ∨ 7 ≤ 4 ∧ 4 ≤ 10 ∨ 14 ≤ 4 ∧ 4 ≤ 16 ∨ 4 = 25) ∨ 80 ≤ 77 ∧ 77 ≤ 84 ∧ 8 ≤ 4 ∨ 85 ≤ 77 ∧ 77 ≤ 87 ∧ 12 ≤ 4 by decide)
    refine to_an (pc := 5) rw_152_5 rfl (to_an (pc := 6) rw_152_6 rfl ?_)
    have c_9 : M6.2.1 77 10 = (M.2.1 77 10) := (W_n W5 (by decide) rfl)
    have b_10 := g_b hG (a := 77) (i := 10) (lo := 0) (hi := 500) rfl rfl
    refine tt_gI (pc := 7) rw_152_7 (g_o hG7 rfl) (v := (M.2.1 77 10)) c_9 (s_pI (pc := 10) rw_152_10 hG7 rfl (fun M12 W11 => ?_))
    have hG13 := g_wf hG7 W11 rfl rfl (by decide)
    have F14 := FR.w F8 W11 (show 77 = 77 ∧ (5 = 4 ∨ 5 = 5 ∨ 7 ≤ 5 ∧ 5 ≤ 10 ∨ 14 ≤ 5 ∧ 5 ≤ 16 ∨ 5 = 25) ∨ 80 ≤ 77 ∧ 77 ≤ 84 ∧ 8 ≤ 5 ∨ 85 ≤ 77 ∧ 77 ≤ 87 ∧ 12 ≤ 5 by decide)
    refine to_c (pc := 13) rw_152_13 (x := (0 : Int32)) rfl rfl (s_r1 (pc := 14) rw_152_14 (A := 0) rfl (by decide) (s_r1 (pc := 32) rw_172_32 (A := 0) rfl (by decide) ?_))
    have k_15 : (0 : Int32).toInt = 0 := rfl
    have c_16 : M12.2.1 77 7 = (M.2.1 77 7) := (W_n W11 (by decide) (W_n W5 (by decide) rfl))
    have t_17 : (M12.2.1 77 7).toInt = (M.2.1 77 7).toInt := congrArg Int32.toInt c_16
    have c_18 : M12.2.1 77 6 = (M.2.1 77 6) := (W_n W11 (by decide) (W_n W5 (by decide) rfl))
    have t_19 : (M12.2.1 77 6).toInt = (M.2.1 77 6).toInt := congrArg Int32.toInt c_18
    have c_20 : M12.2.1 77 8 = (M.2.1 77 8) := (W_n W11 (by decide) (W_n W5 (by decide) rfl))
    have t_21 : (M12.2.1 77 8).toInt = (M.2.1 77 8).toInt := congrArg Int32.toInt c_20
    have j_22 := (FA_f (fun a i z => W_n W11 (tg_231 a i z) rfl) (FA_f (fun a i z => W_n W5 (tg_232 a i z) rfl) q4))
    have j_23 := (WR_f (fun a i z => W_n W11 (by /-r77,5-/ omega) rfl) (WR_f (fun a i z => W_n W5 (by /-r77,4-/ omega) rfl) q5))
    exact h (0 : Int32) M12 hG13 F14 (by decide) (by decide) (by omega) (by omega) (by omega) (by omega) j_22 j_23
  · refine to_an (pc := 8) rw_172_8 rfl (tt_gI (pc := 9) rw_172_9 (g_o hG rfl) (v := (M.2.1 77 9)) rfl (to_c (pc := 12) rw_172_12 (x := (2 : Int32)) rfl rfl (b_cgt (pc := 13) rw_172_13 (A := (M.2.1 77 9).toInt) (B := 2) rfl rfl (fun h24 => ?_) (fun h24 => ?_))))
    · refine to_an (pc := 27) rw_172_27 rfl (to_c (pc := 28) rw_172_28 (x := (1 : Int32)) rfl rfl (s_v (pc := 29) rw_172_29 (dp0 hd (by decide)) (ls0 := [.ref 77, .int (1 : Int32)]) rfl (Nat.le_of_ble_eq_true rfl) (Nat.le_of_ble_eq_true rfl) rfl (to_rc rfl rfl rfl (g_o hG rfl)) rfl (to_an (pc := 0) rw_152_0 rfl (to_in (pc := 1) rw_152_1 rfl (s_pI (pc := 2) rw_152_2 hG rfl (fun M26 W25 => ?_))))))
      have hG27 := g_wf hG W25 rfl rfl (by decide)
      have F28 := FR.w F0 W25 (show 77 = 77 ∧ (4 = 4 ∨ 4 = 5 ∨ 7 ≤ 4 ∧ 4 ≤ 10 ∨ 14 ≤ 4 ∧ 4 ≤ 16 ∨ 4 = 25) ∨ 80 ≤ 77 ∧ 77 ≤ 84 ∧ 8 ≤ 4 ∨ 85 ≤ 77 ∧ 77 ≤ 87 ∧ 12 ≤ 4 by decide)
      refine to_an (pc := 5) rw_152_5 rfl (to_an (pc := 6) rw_152_6 rfl ?_)
      have c_29 : M26.2.1 77 10 = (M.2.1 77 10) := (W_n W25 (by decide) rfl)
      have b_30 := g_b hG (a := 77) (i := 10) (lo := 0) (hi := 500) rfl rfl
      refine tt_gI (pc := 7) rw_152_7 (g_o hG27 rfl) (v := (M.2.1 77 10)) c_29 (s_pI (pc := 10) rw_152_10 hG27 rfl (fun M32 W31 => ?_))
      have hG33 := g_wf hG27 W31 rfl rfl (by decide)
      have F34 := FR.w F28 W31 (show 77 = 77 ∧ (5 = 4 ∨ 5 = 5 ∨ 7 ≤ 5 ∧ 5 ≤ 10 ∨ 14 ≤ 5 ∧ 5 ≤ 16 ∨ 5 = 25) ∨ 80 ≤ 77 ∧ 77 ≤ 84 ∧ 8 ≤ 5 ∨ 85 ≤ 77 ∧ 77 ≤ 87 ∧ 12 ≤ 5 by decide)
      refine to_c (pc := 13) rw_152_13 (x := (0 : Int32)) rfl rfl (s_r1 (pc := 14) rw_152_14 (A := 0) rfl (by decide) (s_r1 (pc := 32) rw_172_32 (A := 0) rfl (by decide) ?_))
      have k_35 : (0 : Int32).toInt = 0 := rfl
      have c_36 : M32.2.1 77 7 = (M.2.1 77 7) := (W_n W31 (by decide) (W_n W25 (by decide) rfl))
      have t_37 : (M32.2.1 77 7).toInt = (M.2.1 77 7).toInt := congrArg Int32.toInt c_36
      have c_38 : M32.2.1 77 6 = (M.2.1 77 6) := (W_n W31 (by decide) (W_n W25 (by decide) rfl))
      have t_39 : (M32.2.1 77 6).toInt = (M.2.1 77 6).toInt := congrArg Int32.toInt c_38
      have c_40 : M32.2.1 77 8 = (M.2.1 77 8) := (W_n W31 (by decide) (W_n W25 (by decide) rfl))
      have t_41 : (M32.2.1 77 8).toInt = (M.2.1 77 8).toInt := congrArg Int32.toInt c_40
      have j_42 := (FA_f (fun a i z => W_n W31 (tg_231 a i z) rfl) (FA_f (fun a i z => W_n W25 (tg_232 a i z) rfl) q4))
      have j_43 := (WR_f (fun a i z => W_n W31 (by /-r77,5-/ omega) rfl) (WR_f (fun a i z => W_n W25 (by /-r77,4-/ omega) rfl) q5))
      exact h (0 : Int32) M32 hG33 F34 (by decide) (by decide) (by omega) (by omega) (by omega) (by omega) j_42 j_43
    · refine to_in (pc := 16) rw_172_16 rfl (b_ieq (pc := 17) rw_172_17 (A := x.toInt) rfl (fun h44 => ?_) (fun h44 => ?_))
      · refine to_an (pc := 33) rw_172_33 rfl (tt_gI (pc := 34) rw_172_34 (g_o hG rfl) (v := (M.2.1 77 9)) rfl (b_ine (pc := 37) rw_172_37 (A := (M.2.1 77 9).toInt) rfl (fun h45 => ?_) (fun h45 => ?_)))
        · refine to_an (pc := 82) rw_172_82 rfl (tt_gI (pc := 83) rw_172_83 (g_o hG rfl) (v := (M.2.1 77 9)) rfl (to_c (pc := 86) rw_172_86 (x := (1 : Int32)) rfl rfl (b_cne (pc := 87) rw_172_87 (A := (M.2.1 77 9).toInt) (B := 1) rfl rfl (fun h46 => ?_) (fun h46 => ?_))))
          · refine to_an (pc := 100) rw_172_100 rfl (s_v (pc := 101) rw_172_101 (dp0 hd (by decide)) (ls0 := [.ref 77, .null, .null, .null, .null, .null]) rfl (Nat.le_of_ble_eq_true rfl) (Nat.le_of_ble_eq_true rfl) rfl (to_rc rfl rfl rfl (g_o hG rfl)) rfl (C_171 hX (dp1 hd (by decide)) hG (by omega) q5  (fun r47 M56 hG49 F48 p_50 p_51 p_52 p_53 p_54 p_55 => ?_)))
            have F57 := FR.c F0 F48 tg_76
            have b_58 := g_b hG49 (a := 77) (i := 7) (lo := 0) (hi := 500) rfl rfl
            have c_59 : M56.2.1 77 6 = (M.2.1 77 6) := (F_n F48 (show ¬ (77 = 77 ∧ (6 = 4 ∨ 6 = 5 ∨ 7 ≤ 6 ∧ 6 ≤ 10 ∨ 6 = 16) ∨ 85 ≤ 77 ∧ 77 ≤ 87 ∧ 12 ≤ 6) by decide) rfl)
            have t_60 : (M56.2.1 77 6).toInt = (M.2.1 77 6).toInt := congrArg Int32.toInt c_59
            have b_61 := g_b hG49 (a := 77) (i := 8) (lo := 0) (hi := 5) rfl rfl
            refine b_ine (pc := 104) rw_172_104 (A := r47.toInt) rfl (fun h62 => ?_) (fun h62 => ?_)
            · refine to_an (pc := 109) rw_172_109 rfl (to_c (pc := 110) rw_172_110 (x := (59 : Int32)) rfl rfl (s_v (pc := 112) rw_172_112 (dp0 hd (by decide)) (ls0 := [.ref 77, .int (59 : Int32)]) rfl (Nat.le_of_ble_eq_true rfl) (Nat.le_of_ble_eq_true rfl) rfl (to_rc rfl rfl rfl (g_o hG49 rfl)) rfl ?_))
              have k_63 : (59 : Int32).toInt = 59 := rfl
              refine C_160 hX (dp1 hd (by decide)) hG49 (by omega) (c := (59 : Int32)) (fun r64 M73 hG66 F65 p_67 p_68 p_69 p_70 p_71 p_72 => ?_)
              have F74 := FR.c F57 F65 tg_77
              have b_75 := g_b hG66 (a := 77) (i := 7) (lo := 0) (hi := 500) rfl rfl
              have c_76 : M73.2.1 77 6 = (M.2.1 77 6) := (F_n F65 (show ¬ (77 = 77 ∧ (6 = 4 ∨ 6 = 5 ∨ 7 ≤ 6 ∧ 6 ≤ 10)) by decide) c_59)
              have t_77 : (M73.2.1 77 6).toInt = (M.2.1 77 6).toInt := congrArg Int32.toInt c_76
              have b_78 := g_b hG66 (a := 77) (i := 8) (lo := 0) (hi := 5) rfl rfl
              refine s_r1 (pc := 115) rw_172_115 (A := r64.toInt) rfl (by omega) ?_
              have j_79 := (FA_f (tg_224 F65) (FA_f (tg_225 F48) q4))
              have j_80 := (WR_f (tg_226 F65) p_55)
              exact h r64 M73 hG66 F74 (by omega) (by omega) (by omega) (by omega) (by omega) (by omega) j_79 j_80
            · refine to_c (pc := 107) rw_172_107 (x := (0 : Int32)) rfl rfl (s_r1 (pc := 108) rw_172_108 (A := 0) rfl (by decide) ?_)
              have k_81 : (0 : Int32).toInt = 0 := rfl
              have j_82 := (FA_f (tg_225 F48) q4)
              exact h (0 : Int32) M56 hG49 F57 (by decide) (by decide) (by omega) (by omega) (by omega) (by omega) j_82 p_55
          · refine to_an (pc := 90) rw_172_90 rfl (s_v (pc := 91) rw_172_91 (dp0 hd (by decide)) (ls0 := [.ref 77, .null, .null, .null, .null, .null, .null, .null, .null]) rfl (Nat.le_of_ble_eq_true rfl) (Nat.le_of_ble_eq_true rfl) rfl (to_rc rfl rfl rfl (g_o hG rfl)) rfl (C_170 hX (dp1 hd (by decide)) hG (by omega) q4 q5  (fun r83 M93 hG85 F84 p_86 p_87 p_88 p_89 p_90 p_91 p_92 => ?_)))
            have F94 := FR.c F0 F84 tg_228
            have b_95 := g_b hG85 (a := 77) (i := 7) (lo := 0) (hi := 500) rfl rfl
            have c_96 : M93.2.1 77 6 = (M.2.1 77 6) := (F_n F84 (show ¬ (77 = 77 ∧ (6 = 4 ∨ 6 = 5 ∨ 7 ≤ 6 ∧ 6 ≤ 10 ∨ 14 ≤ 6 ∧ 6 ≤ 16 ∨ 6 = 25) ∨ 80 ≤ 77 ∧ 77 ≤ 84 ∧ 8 ≤ 6 ∨ 85 ≤ 77 ∧ 77 ≤ 87 ∧ 12 ≤ 6) by decide) rfl)
            have t_97 : (M93.2.1 77 6).toInt = (M.2.1 77 6).toInt := congrArg Int32.toInt c_96
            have b_98 := g_b hG85 (a := 77) (i := 8) (lo := 0) (hi := 5) rfl rfl
            refine b_ine (pc := 94) rw_172_94 (A := r83.toInt) rfl (fun h99 => ?_) (fun h99 => ?_)
            · refine to_an (pc := 109) rw_172_109 rfl (to_c (pc := 110) rw_172_110 (x := (59 : Int32)) rfl rfl (s_v (pc := 112) rw_172_112 (dp0 hd (by decide)) (ls0 := [.ref 77, .int (59 : Int32)]) rfl (Nat.le_of_ble_eq_true rfl) (Nat.le_of_ble_eq_true rfl) rfl (to_rc rfl rfl rfl (g_o hG85 rfl)) rfl ?_))
              have k_100 : (59 : Int32).toInt = 59 := rfl
              refine C_160 hX (dp1 hd (by decide)) hG85 (by omega) (c := (59 : Int32)) (fun r101 M110 hG103 F102 p_104 p_105 p_106 p_107 p_108 p_109 => ?_)
              have F111 := FR.c F94 F102 tg_77
              have b_112 := g_b hG103 (a := 77) (i := 7) (lo := 0) (hi := 500) rfl rfl
              have c_113 : M110.2.1 77 6 = (M.2.1 77 6) := (F_n F102 (show ¬ (77 = 77 ∧ (6 = 4 ∨ 6 = 5 ∨ 7 ≤ 6 ∧ 6 ≤ 10)) by decide) c_96)
              have t_114 : (M110.2.1 77 6).toInt = (M.2.1 77 6).toInt := congrArg Int32.toInt c_113
              have b_115 := g_b hG103 (a := 77) (i := 8) (lo := 0) (hi := 5) rfl rfl
              refine s_r1 (pc := 115) rw_172_115 (A := r101.toInt) rfl (by omega) ?_
              have j_116 := (FA_f (tg_224 F102) p_91)
              have j_117 := (WR_f (tg_226 F102) p_92)
              exact h r101 M110 hG103 F111 (by omega) (by omega) (by omega) (by omega) (by omega) (by omega) j_116 j_117
            · refine to_go (pc := 97) rw_172_97 (to_c (pc := 107) rw_172_107 (x := (0 : Int32)) rfl rfl (s_r1 (pc := 108) rw_172_108 (A := 0) rfl (by decide) ?_))
              have k_118 : (0 : Int32).toInt = 0 := rfl
              exact h (0 : Int32) M93 hG85 F94 (by decide) (by decide) (by omega) (by omega) (by omega) (by omega) p_91 p_92
        · refine to_in (pc := 40) rw_172_40 rfl (b_ine_f (pc := 41) rw_172_41 (A := x.toInt) rfl (by omega) (to_an (pc := 44) rw_172_44 rfl (to_c (pc := 45) rw_172_45 (x := (3 : Int32)) rfl rfl (s_v (pc := 46) rw_172_46 (dp0 hd (by decide)) (ls0 := [.ref 77, .int (3 : Int32)]) rfl (Nat.le_of_ble_eq_true rfl) (Nat.le_of_ble_eq_true rfl) rfl (to_rc rfl rfl rfl (g_o hG rfl)) rfl (to_an (pc := 0) rw_152_0 rfl (to_in (pc := 1) rw_152_1 rfl (s_pI (pc := 2) rw_152_2 hG rfl (fun M120 W119 => ?_))))))))
          have hG121 := g_wf hG W119 rfl rfl (by decide)
          have F122 := FR.w F0 W119 (show 77 = 77 ∧ (4 = 4 ∨ 4 = 5 ∨ 7 ≤ 4 ∧ 4 ≤ 10 ∨ 14 ≤ 4 ∧ 4 ≤ 16 ∨ 4 = 25) ∨ 80 ≤ 77 ∧ 77 ≤ 84 ∧ 8 ≤ 4 ∨ 85 ≤ 77 ∧ 77 ≤ 87 ∧ 12 ≤ 4 by decide)
          refine to_an (pc := 5) rw_152_5 rfl (to_an (pc := 6) rw_152_6 rfl ?_)
          have c_123 : M120.2.1 77 10 = (M.2.1 77 10) := (W_n W119 (by decide) rfl)
          have b_124 := g_b hG (a := 77) (i := 10) (lo := 0) (hi := 500) rfl rfl
          refine tt_gI (pc := 7) rw_152_7 (g_o hG121 rfl) (v := (M.2.1 77 10)) c_123 (s_pI (pc := 10) rw_152_10 hG121 rfl (fun M126 W125 => ?_))
          have hG127 := g_wf hG121 W125 rfl rfl (by decide)
          have F128 := FR.w F122 W125 (show 77 = 77 ∧ (5 = 4 ∨ 5 = 5 ∨ 7 ≤ 5 ∧ 5 ≤ 10 ∨ 14 ≤ 5 ∧ 5 ≤ 16 ∨ 5 = 25) ∨ 80 ≤ 77 ∧ 77 ≤ 84 ∧ 8 ≤ 5 ∨ 85 ≤ 77 ∧ 77 ≤ 87 ∧ 12 ≤ 5 by decide)
          refine to_c (pc := 13) rw_152_13 (x := (0 : Int32)) rfl rfl (s_r1 (pc := 14) rw_152_14 (A := 0) rfl (by decide) (s_r1 (pc := 49) rw_172_49 (A := 0) rfl (by decide) ?_))
          have k_129 : (0 : Int32).toInt = 0 := rfl
          have c_130 : M126.2.1 77 7 = (M.2.1 77 7) := (W_n W125 (by decide) (W_n W119 (by decide) rfl))
          have t_131 : (M126.2.1 77 7).toInt = (M.2.1 77 7).toInt := congrArg Int32.toInt c_130
          have c_132 : M126.2.1 77 6 = (M.2.1 77 6) := (W_n W125 (by decide) (W_n W119 (by decide) rfl))
          have t_133 : (M126.2.1 77 6).toInt = (M.2.1 77 6).toInt := congrArg Int32.toInt c_132
          have c_134 : M126.2.1 77 8 = (M.2.1 77 8) := (W_n W125 (by decide) (W_n W119 (by decide) rfl))
          have t_135 : (M126.2.1 77 8).toInt = (M.2.1 77 8).toInt := congrArg Int32.toInt c_134
          have j_136 := (FA_f (fun a i z => W_n W125 (tg_231 a i z) rfl) (FA_f (fun a i z => W_n W119 (tg_232 a i z) rfl) q4))
          have j_137 := (WR_f (fun a i z => W_n W125 (by /-r77,5-/ omega) rfl) (WR_f (fun a i z => W_n W119 (by /-r77,4-/ omega) rfl) q5))
          exact h (0 : Int32) M126 hG127 F128 (by decide) (by decide) (by omega) (by omega) (by omega) (by omega) j_136 j_137
      · refine to_an (pc := 20) rw_172_20 rfl (tt_gI (pc := 21) rw_172_21 (g_o hG rfl) (v := (M.2.1 77 9)) rfl (b_ieq (pc := 24) rw_172_24 (A := (M.2.1 77 9).toInt) rfl (fun h138 => ?_) (fun h138 => ?_)))
        · refine to_an (pc := 33) rw_172_33 rfl (tt_gI (pc := 34) rw_172_34 (g_o hG rfl) (v := (M.2.1 77 9)) rfl (b_ine_f (pc := 37) rw_172_37 (A := (M.2.1 77 9).toInt) rfl (by omega) (to_in (pc := 40) rw_172_40 rfl (b_ine_t (pc := 41) rw_172_41 (A := x.toInt) rfl (by omega) (to_an (pc := 50) rw_172_50 rfl (s_v (pc := 51) rw_172_51 (dp0 hd (by decide)) (ls0 := [.ref 77]) rfl (Nat.le_of_ble_eq_true rfl) (Nat.le_of_ble_eq_true rfl) rfl (to_rc rfl rfl rfl (g_o hG rfl)) rfl (C_156 hX (dp1 hd (by decide)) hG (by omega)  (fun M144 hG140 F139 p_141 p_142 p_143 => ?_))))))))
          have F145 := FR.c F0 F139 tg_79
          have b_146 := g_b hG140 (a := 77) (i := 7) (lo := 0) (hi := 500) rfl rfl
          have c_147 : M144.2.1 77 6 = (M.2.1 77 6) := (F_n F139 (show ¬ (77 = 77 ∧ 7 ≤ 6 ∧ 6 ≤ 10) by decide) rfl)
          have t_148 : (M144.2.1 77 6).toInt = (M.2.1 77 6).toInt := congrArg Int32.toInt c_147
          have b_149 := g_b hG140 (a := 77) (i := 8) (lo := 0) (hi := 5) rfl rfl
          refine to_an (pc := 54) rw_172_54 rfl (to_c (pc := 55) rw_172_55 (x := (10 : Int32)) rfl rfl (to_c (pc := 57) rw_172_57 (x := (60 : Int32)) rfl rfl (s_v (pc := 59) rw_172_59 (dp0 hd (by decide)) (ls0 := [.ref 77, .int (10 : Int32), .int (60 : Int32)]) rfl (Nat.le_of_ble_eq_true rfl) (Nat.le_of_ble_eq_true rfl) rfl (to_rc rfl rfl rfl (g_o hG140 rfl)) rfl (to_an (pc := 0) rw_162_0 rfl (tt_gI (pc := 1) rw_162_1 (g_o hG140 rfl) (v := (M144.2.1 77 8)) rfl (to_c (pc := 4) rw_162_4 (x := (3 : Int32)) rfl rfl (b_ceq (pc := 5) rw_162_5 (A := (M144.2.1 77 8).toInt) (B := 3) rfl rfl (fun h150 => ?_) (fun h150 => ?_))))))))
          · refine to_an (pc := 14) rw_162_14 rfl (tt_gI (pc := 15) rw_162_15 (g_o hG140 rfl) (v := (M144.2.1 77 9)) rfl (to_in (pc := 18) rw_162_18 rfl (b_clt (pc := 19) rw_162_19 (A := (M144.2.1 77 9).toInt) (B := 10) rfl rfl (fun h151 => ?_) (fun h151 => ?_))))
            · refine to_an (pc := 30) rw_162_30 rfl (to_c (pc := 31) rw_162_31 (x := (2 : Int32)) rfl rfl (s_v (pc := 32) rw_162_32 (dp1 hd (by decide)) (ls0 := [.ref 77, .int (2 : Int32)]) rfl (Nat.le_of_ble_eq_true rfl) (Nat.le_of_ble_eq_true rfl) rfl (to_rc rfl rfl rfl (g_o hG140 rfl)) rfl (to_an (pc := 0) rw_152_0 rfl (to_in (pc := 1) rw_152_1 rfl (s_pI (pc := 2) rw_152_2 hG140 rfl (fun M153 W152 => ?_))))))
              have hG154 := g_wf hG140 W152 rfl rfl (by decide)
              have F155 := FR.w F145 W152 (show 77 = 77 ∧ (4 = 4 ∨ 4 = 5 ∨ 7 ≤ 4 ∧ 4 ≤ 10 ∨ 14 ≤ 4 ∧ 4 ≤ 16 ∨ 4 = 25) ∨ 80 ≤ 77 ∧ 77 ≤ 84 ∧ 8 ≤ 4 ∨ 85 ≤ 77 ∧ 77 ≤ 87 ∧ 12 ≤ 4 by decide)
              refine to_an (pc := 5) rw_152_5 rfl (to_an (pc := 6) rw_152_6 rfl ?_)
              have c_156 : M153.2.1 77 10 = (M144.2.1 77 10) := (W_n W152 (by decide) rfl)
              have b_157 := g_b hG140 (a := 77) (i := 10) (lo := 0) (hi := 500) rfl rfl
              refine tt_gI (pc := 7) rw_152_7 (g_o hG154 rfl) (v := (M144.2.1 77 10)) c_156 (s_pI (pc := 10) rw_152_10 hG154 rfl (fun M159 W158 => ?_))
              have hG160 := g_wf hG154 W158 rfl rfl (by decide)
              have F161 := FR.w F155 W158 (show 77 = 77 ∧ (5 = 4 ∨ 5 = 5 ∨ 7 ≤ 5 ∧ 5 ≤ 10 ∨ 14 ≤ 5 ∧ 5 ≤ 16 ∨ 5 = 25) ∨ 80 ≤ 77 ∧ 77 ≤ 84 ∧ 8 ≤ 5 ∨ 85 ≤ 77 ∧ 77 ≤ 87 ∧ 12 ≤ 5 by decide)
              refine to_c (pc := 13) rw_152_13 (x := (0 : Int32)) rfl rfl (s_r1 (pc := 14) rw_152_14 (A := 0) rfl (by decide) (b_ieq_t (pc := 35) rw_162_35 (A := 0) rfl (by decide) (to_c (pc := 42) rw_162_42 (x := (0 : Int32)) rfl rfl (s_r1 (pc := 43) rw_162_43 (A := 0) rfl (by decide) (b_ine_f (pc := 62) rw_172_62 (A := 0) rfl (by decide) (to_c (pc := 65) rw_172_65 (x := (0 : Int32)) rfl rfl (s_r1 (pc := 66) rw_172_66 (A := 0) rfl (by decide) ?_)))))))
              have k_162 : (0 : Int32).toInt = 0 := rfl
              have c_163 : M159.2.1 77 7 = (M144.2.1 77 7) := (W_n W158 (by decide) (W_n W152 (by decide) rfl))
              have t_164 : (M159.2.1 77 7).toInt = (M144.2.1 77 7).toInt := congrArg Int32.toInt c_163
              have c_165 : M159.2.1 77 6 = (M.2.1 77 6) := (W_n W158 (by decide) (W_n W152 (by decide) c_147))
              have t_166 : (M159.2.1 77 6).toInt = (M.2.1 77 6).toInt := congrArg Int32.toInt c_165
              have c_167 : M159.2.1 77 8 = (M144.2.1 77 8) := (W_n W158 (by decide) (W_n W152 (by decide) rfl))
              have t_168 : (M159.2.1 77 8).toInt = (M144.2.1 77 8).toInt := congrArg Int32.toInt c_167
              have j_169 := (FA_f (fun a i z => W_n W158 (tg_231 a i z) rfl) (FA_f (fun a i z => W_n W152 (tg_232 a i z) rfl) (FA_f (tg_220 F139) q4)))
              have j_170 := (WR_f (fun a i z => W_n W158 (by /-r77,5-/ omega) rfl) (WR_f (fun a i z => W_n W152 (by /-r77,4-/ omega) rfl) (WR_f (tg_222 F139) q5)))
              exact h (0 : Int32) M159 hG160 F161 (by decide) (by decide) (by omega) (by omega) (by omega) (by omega) j_169 j_170
            · refine to_an (pc := 22) rw_162_22 rfl (tt_gI (pc := 23) rw_162_23 (g_o hG140 rfl) (v := (M144.2.1 77 9)) rfl (to_in (pc := 26) rw_162_26 rfl (b_cle (pc := 27) rw_162_27 (A := (M144.2.1 77 9).toInt) (B := 60) rfl rfl (fun h171 => ?_) (fun h171 => ?_))))
              · refine to_c (pc := 38) rw_162_38 (x := (1 : Int32)) rfl rfl (to_go (pc := 39) rw_162_39 (s_r1 (pc := 43) rw_162_43 (A := 1) rfl (by decide) (b_ine_t (pc := 62) rw_172_62 (A := 1) rfl (by decide) (to_an (pc := 67) rw_172_67 rfl (to_an (pc := 68) rw_172_68 rfl (tt_gI (pc := 69) rw_172_69 (g_o hG140 rfl) (v := (M144.2.1 77 9)) rfl (s_pI (pc := 72) rw_172_72 hG140 rfl (fun M173 W172 => ?_))))))))
                have hG174 := g_w hG140 W172 (A := (M144.2.1 77 9).toInt) rfl (lo := 10) (hi := 60) rfl rfl (by omega) (by decide)
                have F175 := FR.w F145 W172 (show 77 = 77 ∧ (14 = 4 ∨ 14 = 5 ∨ 7 ≤ 14 ∧ 14 ≤ 10 ∨ 14 ≤ 14 ∧ 14 ≤ 16 ∨ 14 = 25) ∨ 80 ≤ 77 ∧ 77 ≤ 84 ∧ 8 ≤ 14 ∨ 85 ≤ 77 ∧ 77 ≤ 87 ∧ 12 ≤ 14 by decide)
                refine to_an (pc := 75) rw_172_75 rfl (s_v (pc := 76) rw_172_76 (dp0 hd (by decide)) (ls0 := [.ref 77]) rfl (Nat.le_of_ble_eq_true rfl) (Nat.le_of_ble_eq_true rfl) rfl (to_rc rfl rfl rfl (g_o hG174 rfl)) rfl ?_)
                have c_176 : M173.2.1 77 7 = (M144.2.1 77 7) := (W_n W172 (by decide) rfl)
                have t_177 : (M173.2.1 77 7).toInt = (M144.2.1 77 7).toInt := congrArg Int32.toInt c_176
                have c_178 : M173.2.1 77 6 = (M.2.1 77 6) := (W_n W172 (by decide) c_147)
                have t_179 : (M173.2.1 77 6).toInt = (M.2.1 77 6).toInt := congrArg Int32.toInt c_178
                refine C_156 hX (dp1 hd (by decide)) hG174 (by omega)  (fun M185 hG181 F180 p_182 p_183 p_184 => ?_)
                have F186 := FR.c F175 F180 tg_79
                have b_187 := g_b hG181 (a := 77) (i := 7) (lo := 0) (hi := 500) rfl rfl
                have c_188 : M185.2.1 77 6 = (M.2.1 77 6) := (F_n F180 (show ¬ (77 = 77 ∧ 7 ≤ 6 ∧ 6 ≤ 10) by decide) c_178)
                have t_189 : (M185.2.1 77 6).toInt = (M.2.1 77 6).toInt := congrArg Int32.toInt c_188
                have b_190 := g_b hG181 (a := 77) (i := 8) (lo := 0) (hi := 5) rfl rfl
                refine to_go (pc := 79) rw_172_79 (to_an (pc := 109) rw_172_109 rfl (to_c (pc := 110) rw_172_110 (x := (59 : Int32)) rfl rfl (s_v (pc := 112) rw_172_112 (dp0 hd (by decide)) (ls0 := [.ref 77, .int (59 : Int32)]) rfl (Nat.le_of_ble_eq_true rfl) (Nat.le_of_ble_eq_true rfl) rfl (to_rc rfl rfl rfl (g_o hG181 rfl)) rfl ?_)))
                have k_191 : (59 : Int32).toInt = 59 := rfl
                refine C_160 hX (dp1 hd (by decide)) hG181 (by omega) (c := (59 : Int32)) (fun r192 M201 hG194 F193 p_195 p_196 p_197 p_198 p_199 p_200 => ?_)
                have F202 := FR.c F186 F193 tg_77
                have b_203 := g_b hG194 (a := 77) (i := 7) (lo := 0) (hi := 500) rfl rfl
                have c_204 : M201.2.1 77 6 = (M.2.1 77 6) := (F_n F193 (show ¬ (77 = 77 ∧ (6 = 4 ∨ 6 = 5 ∨ 7 ≤ 6 ∧ 6 ≤ 10)) by decide) c_188)
                have t_205 : (M201.2.1 77 6).toInt = (M.2.1 77 6).toInt := congrArg Int32.toInt c_204
                have b_206 := g_b hG194 (a := 77) (i := 8) (lo := 0) (hi := 5) rfl rfl
                refine s_r1 (pc := 115) rw_172_115 (A := r192.toInt) rfl (by omega) ?_
                have j_207 := (FA_f (tg_224 F193) (FA_f (tg_220 F180) (FA_f (fun a i z => W_n W172 (tg_233 a i z) rfl) (FA_f (tg_220 F139) q4))))
                have j_208 := (WR_f (tg_226 F193) (WR_f (tg_222 F180) (WR_f (fun a i z => W_n W172 (by /-r77,14-/ omega) rfl) (WR_f (tg_222 F139) q5))))
                exact h r192 M201 hG194 F202 (by omega) (by omega) (by omega) (by omega) (by omega) (by omega) j_207 j_208
              · refine to_an (pc := 30) rw_162_30 rfl (to_c (pc := 31) rw_162_31 (x := (2 : Int32)) rfl rfl (s_v (pc := 32) rw_162_32 (dp1 hd (by decide)) (ls0 := [.ref 77, .int (2 : Int32)]) rfl (Nat.le_of_ble_eq_true rfl) (Nat.le_of_ble_eq_true rfl) rfl (to_rc rfl rfl rfl (g_o hG140 rfl)) rfl (to_an (pc := 0) rw_152_0 rfl (to_in (pc := 1) rw_152_1 rfl (s_pI (pc := 2) rw_152_2 hG140 rfl (fun M210 W209 => ?_))))))
                have hG211 := g_wf hG140 W209 rfl rfl (by decide)
                have F212 := FR.w F145 W209 (show 77 = 77 ∧ (4 = 4 ∨ 4 = 5 ∨ 7 ≤ 4 ∧ 4 ≤ 10 ∨ 14 ≤ 4 ∧ 4 ≤ 16 ∨ 4 = 25) ∨ 80 ≤ 77 ∧ 77 ≤ 84 ∧ 8 ≤ 4 ∨ 85 ≤ 77 ∧ 77 ≤ 87 ∧ 12 ≤ 4 by decide)
                refine to_an (pc := 5) rw_152_5 rfl (to_an (pc := 6) rw_152_6 rfl ?_)
                have c_213 : M210.2.1 77 10 = (M144.2.1 77 10) := (W_n W209 (by decide) rfl)
                have b_214 := g_b hG140 (a := 77) (i := 10) (lo := 0) (hi := 500) rfl rfl
                refine tt_gI (pc := 7) rw_152_7 (g_o hG211 rfl) (v := (M144.2.1 77 10)) c_213 (s_pI (pc := 10) rw_152_10 hG211 rfl (fun M216 W215 => ?_))
                have hG217 := g_wf hG211 W215 rfl rfl (by decide)
                have F218 := FR.w F212 W215 (show 77 = 77 ∧ (5 = 4 ∨ 5 = 5 ∨ 7 ≤ 5 ∧ 5 ≤ 10 ∨ 14 ≤ 5 ∧ 5 ≤ 16 ∨ 5 = 25) ∨ 80 ≤ 77 ∧ 77 ≤ 84 ∧ 8 ≤ 5 ∨ 85 ≤ 77 ∧ 77 ≤ 87 ∧ 12 ≤ 5 by decide)
                refine to_c (pc := 13) rw_152_13 (x := (0 : Int32)) rfl rfl (s_r1 (pc := 14) rw_152_14 (A := 0) rfl (by decide) (b_ieq_t (pc := 35) rw_162_35 (A := 0) rfl (by decide) (to_c (pc := 42) rw_162_42 (x := (0 : Int32)) rfl rfl (s_r1 (pc := 43) rw_162_43 (A := 0) rfl (by decide) (b_ine_f (pc := 62) rw_172_62 (A := 0) rfl (by decide) (to_c (pc := 65) rw_172_65 (x := (0 : Int32)) rfl rfl (s_r1 (pc := 66) rw_172_66 (A := 0) rfl (by decide) ?_)))))))
                have k_219 : (0 : Int32).toInt = 0 := rfl
                have c_220 : M216.2.1 77 7 = (M144.2.1 77 7) := (W_n W215 (by decide) (W_n W209 (by decide) rfl))
                have t_221 : (M216.2.1 77 7).toInt = (M144.2.1 77 7).toInt := congrArg Int32.toInt c_220
                have c_222 : M216.2.1 77 6 = (M.2.1 77 6) := (W_n W215 (by decide) (W_n W209 (by decide) c_147))
                have t_223 : (M216.2.1 77 6).toInt = (M.2.1 77 6).toInt := congrArg Int32.toInt c_222
                have c_224 : M216.2.1 77 8 = (M144.2.1 77 8) := (W_n W215 (by decide) (W_n W209 (by decide) rfl))
                have t_225 : (M216.2.1 77 8).toInt = (M144.2.1 77 8).toInt := congrArg Int32.toInt c_224
                have j_226 := (FA_f (fun a i z => W_n W215 (tg_231 a i z) rfl) (FA_f (fun a i z => W_n W209 (tg_232 a i z) rfl) (FA_f (tg_220 F139) q4)))
                have j_227 := (WR_f (fun a i z => W_n W215 (by /-r77,5-/ omega) rfl) (WR_f (fun a i z => W_n W209 (by /-r77,4-/ omega) rfl) (WR_f (tg_222 F139) q5)))
                exact h (0 : Int32) M216 hG217 F218 (by decide) (by decide) (by omega) (by omega) (by omega) (by omega) j_226 j_227
          · refine to_an (pc := 8) rw_162_8 rfl (to_c (pc := 9) rw_162_9 (x := (1 : Int32)) rfl rfl (s_v (pc := 10) rw_162_10 (dp1 hd (by decide)) (ls0 := [.ref 77, .int (1 : Int32)]) rfl (Nat.le_of_ble_eq_true rfl) (Nat.le_of_ble_eq_true rfl) rfl (to_rc rfl rfl rfl (g_o hG140 rfl)) rfl (to_an (pc := 0) rw_152_0 rfl (to_in (pc := 1) rw_152_1 rfl (s_pI (pc := 2) rw_152_2 hG140 rfl (fun M229 W228 => ?_))))))
            have hG230 := g_wf hG140 W228 rfl rfl (by decide)
            have F231 := FR.w F145 W228 (show 77 = 77 ∧ (4 = 4 ∨ 4 = 5 ∨ 7 ≤ 4 ∧ 4 ≤ 10 ∨ 14 ≤ 4 ∧ 4 ≤ 16 ∨ 4 = 25) ∨ 80 ≤ 77 ∧ 77 ≤ 84 ∧ 8 ≤ 4 ∨ 85 ≤ 77 ∧ 77 ≤ 87 ∧ 12 ≤ 4 by decide)
            refine to_an (pc := 5) rw_152_5 rfl (to_an (pc := 6) rw_152_6 rfl ?_)
            have c_232 : M229.2.1 77 10 = (M144.2.1 77 10) := (W_n W228 (by decide) rfl)
            have b_233 := g_b hG140 (a := 77) (i := 10) (lo := 0) (hi := 500) rfl rfl
            refine tt_gI (pc := 7) rw_152_7 (g_o hG230 rfl) (v := (M144.2.1 77 10)) c_232 (s_pI (pc := 10) rw_152_10 hG230 rfl (fun M235 W234 => ?_))
            have hG236 := g_wf hG230 W234 rfl rfl (by decide)
            have F237 := FR.w F231 W234 (show 77 = 77 ∧ (5 = 4 ∨ 5 = 5 ∨ 7 ≤ 5 ∧ 5 ≤ 10 ∨ 14 ≤ 5 ∧ 5 ≤ 16 ∨ 5 = 25) ∨ 80 ≤ 77 ∧ 77 ≤ 84 ∧ 8 ≤ 5 ∨ 85 ≤ 77 ∧ 77 ≤ 87 ∧ 12 ≤ 5 by decide)
            refine to_c (pc := 13) rw_152_13 (x := (0 : Int32)) rfl rfl (s_r1 (pc := 14) rw_152_14 (A := 0) rfl (by decide) (s_r1 (pc := 13) rw_162_13 (A := 0) rfl (by decide) (b_ine_f (pc := 62) rw_172_62 (A := 0) rfl (by decide) (to_c (pc := 65) rw_172_65 (x := (0 : Int32)) rfl rfl (s_r1 (pc := 66) rw_172_66 (A := 0) rfl (by decide) ?_)))))
            have k_238 : (0 : Int32).toInt = 0 := rfl
            have c_239 : M235.2.1 77 7 = (M144.2.1 77 7) := (W_n W234 (by decide) (W_n W228 (by decide) rfl))
            have t_240 : (M235.2.1 77 7).toInt = (M144.2.1 77 7).toInt := congrArg Int32.toInt c_239
            have c_241 : M235.2.1 77 6 = (M.2.1 77 6) := (W_n W234 (by decide) (W_n W228 (by decide) c_147))
            have t_242 : (M235.2.1 77 6).toInt = (M.2.1 77 6).toInt := congrArg Int32.toInt c_241
            have c_243 : M235.2.1 77 8 = (M144.2.1 77 8) := (W_n W234 (by decide) (W_n W228 (by decide) rfl))
            have t_244 : (M235.2.1 77 8).toInt = (M144.2.1 77 8).toInt := congrArg Int32.toInt c_243
            have j_245 := (FA_f (fun a i z => W_n W234 (tg_231 a i z) rfl) (FA_f (fun a i z => W_n W228 (tg_232 a i z) rfl) (FA_f (tg_220 F139) q4)))
            have j_246 := (WR_f (fun a i z => W_n W234 (by /-r77,5-/ omega) rfl) (WR_f (fun a i z => W_n W228 (by /-r77,4-/ omega) rfl) (WR_f (tg_222 F139) q5)))
            exact h (0 : Int32) M235 hG236 F237 (by decide) (by decide) (by omega) (by omega) (by omega) (by omega) j_245 j_246
        · refine to_an (pc := 27) rw_172_27 rfl (to_c (pc := 28) rw_172_28 (x := (1 : Int32)) rfl rfl (s_v (pc := 29) rw_172_29 (dp0 hd (by decide)) (ls0 := [.ref 77, .int (1 : Int32)]) rfl (Nat.le_of_ble_eq_true rfl) (Nat.le_of_ble_eq_true rfl) rfl (to_rc rfl rfl rfl (g_o hG rfl)) rfl (to_an (pc := 0) rw_152_0 rfl (to_in (pc := 1) rw_152_1 rfl (s_pI (pc := 2) rw_152_2 hG rfl (fun M248 W247 => ?_))))))
          have hG249 := g_wf hG W247 rfl rfl (by decide)
          have F250 := FR.w F0 W247 (show 77 = 77 ∧ (4 = 4 ∨ 4 = 5 ∨ 7 ≤ 4 ∧ 4 ≤ 10 ∨ 14 ≤ 4 ∧ 4 ≤ 16 ∨ 4 = 25) ∨ 80 ≤ 77 ∧ 77 ≤ 84 ∧ 8 ≤ 4 ∨ 85 ≤ 77 ∧ 77 ≤ 87 ∧ 12 ≤ 4 by decide)
          refine to_an (pc := 5) rw_152_5 rfl (to_an (pc := 6) rw_152_6 rfl ?_)
          have c_251 : M248.2.1 77 10 = (M.2.1 77 10) := (W_n W247 (by decide) rfl)
          have b_252 := g_b hG (a := 77) (i := 10) (lo := 0) (hi := 500) rfl rfl
          refine tt_gI (pc := 7) rw_152_7 (g_o hG249 rfl) (v := (M.2.1 77 10)) c_251 (s_pI (pc := 10) rw_152_10 hG249 rfl (fun M254 W253 => ?_))
          have hG255 := g_wf hG249 W253 rfl rfl (by decide)
          have F256 := FR.w F250 W253 (show 77 = 77 ∧ (5 = 4 ∨ 5 = 5 ∨ 7 ≤ 5 ∧ 5 ≤ 10 ∨ 14 ≤ 5 ∧ 5 ≤ 16 ∨ 5 = 25) ∨ 80 ≤ 77 ∧ 77 ≤ 84 ∧ 8 ≤ 5 ∨ 85 ≤ 77 ∧ 77 ≤ 87 ∧ 12 ≤ 5 by decide)
          refine to_c (pc := 13) rw_152_13 (x := (0 : Int32)) rfl rfl (s_r1 (pc := 14) rw_152_14 (A := 0) rfl (by decide) (s_r1 (pc := 32) rw_172_32 (A := 0) rfl (by decide) ?_))
          have k_257 : (0 : Int32).toInt = 0 := rfl
          have c_258 : M254.2.1 77 7 = (M.2.1 77 7) := (W_n W253 (by decide) (W_n W247 (by decide) rfl))
          have t_259 : (M254.2.1 77 7).toInt = (M.2.1 77 7).toInt := congrArg Int32.toInt c_258
          have c_260 : M254.2.1 77 6 = (M.2.1 77 6) := (W_n W253 (by decide) (W_n W247 (by decide) rfl))
          have t_261 : (M254.2.1 77 6).toInt = (M.2.1 77 6).toInt := congrArg Int32.toInt c_260
          have c_262 : M254.2.1 77 8 = (M.2.1 77 8) := (W_n W253 (by decide) (W_n W247 (by decide) rfl))
          have t_263 : (M254.2.1 77 8).toInt = (M.2.1 77 8).toInt := congrArg Int32.toInt c_262
          have j_264 := (FA_f (fun a i z => W_n W253 (tg_231 a i z) rfl) (FA_f (fun a i z => W_n W247 (tg_232 a i z) rfl) q4))
          have j_265 := (WR_f (fun a i z => W_n W253 (by /-r77,5-/ omega) rfl) (WR_f (fun a i z => W_n W247 (by /-r77,4-/ omega) rfl) q5))
          exact h (0 : Int32) M254 hG255 F256 (by decide) (by decide) (by omega) (by omega) (by omega) (by omega) j_264 j_265
end
section
theorem tg_234 {M M1 : mm_M} (F : FR (fun a i : Nat => a = 77 ∧ (i = 4 ∨ i = 5 ∨ 7 ≤ i ∧ i ≤ 10 ∨ 14 ≤ i ∧ i ≤ 16 ∨ i = 25) ∨ 80 ≤ a ∧ a ≤ 84 ∧ 8 ≤ i ∨ 85 ≤ a ∧ a ≤ 87 ∧ 12 ≤ i) M M1) : ∀ a i : Nat, WC_r a i → M1.2.1 a i = M.2.1 a i := fun a i z => F_n F (show ¬ (a = 77 ∧ (i = 4 ∨ i = 5 ∨ 7 ≤ i ∧ i ≤ 10 ∨ 14 ≤ i ∧ i ≤ 16 ∨ i = 25) ∨ 80 ≤ a ∧ a ≤ 84 ∧ 8 ≤ i ∨ 85 ≤ a ∧ a ≤ 87 ∧ 12 ≤ i) by omega) rfl
theorem tg_235 {M M1 : mm_M} (F : FR (fun a i : Nat => a = 77 ∧ (i = 4 ∨ i = 5 ∨ 7 ≤ i ∧ i ≤ 10 ∨ 14 ≤ i ∧ i ≤ 16 ∨ i = 25) ∨ 80 ≤ a ∧ a ≤ 84 ∧ 8 ≤ i ∨ 85 ≤ a ∧ a ≤ 87 ∧ 12 ≤ i) M M1) : ∀ a i : Nat, NJ_r a i → M1.2.1 a i = M.2.1 a i := fun a i z => F_n F (show ¬ (a = 77 ∧ (i = 4 ∨ i = 5 ∨ 7 ≤ i ∧ i ≤ 10 ∨ 14 ≤ i ∧ i ≤ 16 ∨ i = 25) ∨ 80 ≤ a ∧ a ≤ 84 ∧ 8 ≤ i ∨ 85 ≤ a ∧ a ≤ 87 ∧ 12 ≤ i) by omega) rfl
theorem tg_236 {M M1 : mm_M} (F : FR (fun a i : Nat => a = 77 ∧ (i = 4 ∨ i = 5 ∨ 7 ≤ i ∧ i ≤ 10 ∨ 14 ≤ i ∧ i ≤ 16 ∨ i = 25) ∨ 80 ≤ a ∧ a ≤ 84 ∧ 8 ≤ i ∨ 85 ≤ a ∧ a ≤ 87 ∧ 12 ≤ i) M M1) : ∀ a i : Nat, (a = 100 ∨ a = 77 ∧ i = 28) → M1.2.1 a i = M.2.1 a i := fun a i z => F_n F (show ¬ (a = 77 ∧ (i = 4 ∨ i = 5 ∨ 7 ≤ i ∧ i ≤ 10 ∨ 14 ≤ i ∧ i ≤ 16 ∨ i = 25) ∨ 80 ≤ a ∧ a ≤ 84 ∧ 8 ≤ i ∨ 85 ≤ a ∧ a ≤ 87 ∧ 12 ≤ i) by omega) rfl
theorem tg_237 {M M1 : mm_M} (F : FR (fun a i : Nat => a = 77 ∧ (i = 4 ∨ i = 5 ∨ 7 ≤ i ∧ i ≤ 10 ∨ 14 ≤ i ∧ i ≤ 16 ∨ i = 25) ∨ 80 ≤ a ∧ a ≤ 84 ∧ 8 ≤ i ∨ 85 ≤ a ∧ a ≤ 87 ∧ 12 ≤ i) M M1) : ∀ a i : Nat, KQ_r a i → M1.2.1 a i = M.2.1 a i := fun a i z => F_n F (show ¬ (a = 77 ∧ (i = 4 ∨ i = 5 ∨ 7 ≤ i ∧ i ≤ 10 ∨ 14 ≤ i ∧ i ≤ 16 ∨ i = 25) ∨ 80 ≤ a ∧ a ≤ 84 ∧ 8 ≤ i ∨ 85 ≤ a ∧ a ≤ 87 ∧ 12 ≤ i) by omega) rfl
theorem tg_238 {M M1 : mm_M} (F : FR (fun a i : Nat => a = 77 ∧ (14 ≤ i ∧ i ≤ 16 ∨ i = 25)) M M1) : ∀ a i : Nat, (81 ≤ a ∧ a ≤ 84) → M1.2.1 a i = M.2.1 a i := fun a i z => F_n F (show ¬ (a = 77 ∧ (14 ≤ i ∧ i ≤ 16 ∨ i = 25)) by omega) rfl
theorem tg_239 {M M1 : mm_M} (F : FR (fun a i : Nat => a = 77 ∧ (i = 1 ∨ 4 ≤ i ∧ i ≤ 10)) M M1) : ∀ a i : Nat, (81 ≤ a ∧ a ≤ 84) → M1.2.1 a i = M.2.1 a i := fun a i z => F_n F (show ¬ (a = 77 ∧ (i = 1 ∨ 4 ≤ i ∧ i ≤ 10)) by omega) rfl
theorem tg_240 {M M1 : mm_M} (F : FR (fun a i : Nat => a = 77 ∧ (14 ≤ i ∧ i ≤ 16 ∨ i = 25)) M M1) : ∀ a i : Nat, WC_r a i → M1.2.1 a i = M.2.1 a i := fun a i z => F_n F (show ¬ (a = 77 ∧ (14 ≤ i ∧ i ≤ 16 ∨ i = 25)) by omega) rfl
theorem tg_241 {M M1 : mm_M} (F : FR (fun a i : Nat => a = 77 ∧ (i = 1 ∨ 4 ≤ i ∧ i ≤ 10)) M M1) : ∀ a i : Nat, WC_r a i → M1.2.1 a i = M.2.1 a i := fun a i z => F_n F (show ¬ (a = 77 ∧ (i = 1 ∨ 4 ≤ i ∧ i ≤ 10)) by omega) rfl
theorem tg_242 {M M1 : mm_M} (F : FR (fun a i : Nat => a = 77 ∧ (14 ≤ i ∧ i ≤ 16 ∨ i = 25)) M M1) : ∀ a i : Nat, NJ_r a i → M1.2.1 a i = M.2.1 a i := fun a i z => F_n F (show ¬ (a = 77 ∧ (14 ≤ i ∧ i ≤ 16 ∨ i = 25)) by omega) rfl
theorem tg_243 {M M1 : mm_M} (F : FR (fun a i : Nat => a = 77 ∧ (i = 1 ∨ 4 ≤ i ∧ i ≤ 10)) M M1) : ∀ a i : Nat, NJ_r a i → M1.2.1 a i = M.2.1 a i := fun a i z => F_n F (show ¬ (a = 77 ∧ (i = 1 ∨ 4 ≤ i ∧ i ≤ 10)) by omega) rfl
theorem tg_244 {M M1 : mm_M} (F : FR (fun a i : Nat => a = 77 ∧ (14 ≤ i ∧ i ≤ 16 ∨ i = 25)) M M1) : ∀ a i : Nat, (a = 100 ∨ a = 77 ∧ i = 28) → M1.2.1 a i = M.2.1 a i := fun a i z => F_n F (show ¬ (a = 77 ∧ (14 ≤ i ∧ i ≤ 16 ∨ i = 25)) by omega) rfl
theorem tg_245 {M M1 : mm_M} (F : FR (fun a i : Nat => a = 77 ∧ (i = 1 ∨ 4 ≤ i ∧ i ≤ 10)) M M1) : ∀ a i : Nat, (a = 100 ∨ a = 77 ∧ i = 28) → M1.2.1 a i = M.2.1 a i := fun a i z => F_n F (show ¬ (a = 77 ∧ (i = 1 ∨ 4 ≤ i ∧ i ≤ 10)) by omega) rfl
theorem tg_246 {M M1 : mm_M} (F : FR (fun a i : Nat => a = 77 ∧ (14 ≤ i ∧ i ≤ 16 ∨ i = 25)) M M1) : ∀ a i : Nat, KQ_r a i → M1.2.1 a i = M.2.1 a i := fun a i z => F_n F (show ¬ (a = 77 ∧ (14 ≤ i ∧ i ≤ 16 ∨ i = 25)) by omega) rfl
theorem tg_247 {M M1 : mm_M} (F : FR (fun a i : Nat => a = 77 ∧ (i = 1 ∨ 4 ≤ i ∧ i ≤ 10)) M M1) : ∀ a i : Nat, KQ_r a i → M1.2.1 a i = M.2.1 a i := fun a i z => F_n F (show ¬ (a = 77 ∧ (i = 1 ∨ 4 ≤ i ∧ i ≤ 10)) by omega) rfl
theorem tg_248 : ∀ a i j : Nat, (81 ≤ a ∧ a ≤ 84) → ¬ (a = 100 ∧ i = j) := fun a i j z => by omega
theorem tg_249 : ∀ a i : Nat, (81 ≤ a ∧ a ≤ 84) → ¬ (a = 77 ∧ i = 41) := fun a i z => by omega
theorem tg_250 : ∀ a i : Nat, (81 ≤ a ∧ a ≤ 84) → ¬ (a = 77 ∧ i = 57) := fun a i z => by omega
theorem tg_251 : ∀ a i : Nat, (81 ≤ a ∧ a ≤ 84) → ¬ (a = 77 ∧ i = 58) := fun a i z => by omega
theorem tg_252 : ∀ a i : Nat, (81 ≤ a ∧ a ≤ 84) → ¬ (a = 77 ∧ i = 29) := fun a i z => by omega
theorem tg_253 : ∀ a i : Nat, (81 ≤ a ∧ a ≤ 84) → ¬ (a = 77 ∧ i = 28) := fun a i z => by omega
theorem tg_254 : ∀ a i j : Nat, (81 ≤ a ∧ a ≤ 84) → ¬ (a = 86 ∧ i = j) := fun a i j z => by omega
theorem tg_255 : ∀ a i j : Nat, (81 ≤ a ∧ a ≤ 84) → ¬ (a = 85 ∧ i = j) := fun a i j z => by omega
theorem tg_256 : ∀ a i : Nat, (81 ≤ a ∧ a ≤ 84) → ¬ (a = 77 ∧ i = 13) := fun a i z => by omega
theorem tg_257 : ∀ a i : Nat, (81 ≤ a ∧ a ≤ 84) → ¬ (a = 77 ∧ i = 12) := fun a i z => by omega
theorem tg_258 : ∀ a i : Nat, (81 ≤ a ∧ a ≤ 84) → ¬ (a = 77 ∧ i = 11) := fun a i z => by omega
theorem tg_259 : ∀ a i : Nat, (a = 100 ∨ a = 77 ∧ i = 28) → ¬ (a = 77 ∧ i = 2) := fun a i z => by omega
set_option maxRecDepth 4000 in
set_option maxHeartbeats 0 in
theorem T_165_0 {X : mm_X} {d : Nat} {M : mm_M} {Q : Option Value → mm_M → Prop} (hX : g_X X) (hd : 0 ≤ d) (q1 : FA M) (q2 : WR M) (h : ∀ (M1 : mm_M), g_G M1 → FR md_ke M M1 → ((M1.2.1 77 28).toInt = 0) → ((M1.2.1 77 29).toInt = 0) → ((M1.2.1 77 58).toInt = 0) → ((M1.2.1 77 57).toInt = 0) → FA M1 → WC M1 → PS M1 → Q (none) M1) : ∀ nn9 : Nat, (∀ (N : mm_M) (x1 : Int32), g_G N → FR md_ke M N → (0 ≤ x1.toInt) → (x1.toInt ≤ 6) → (∀ j : Nat, j < (x1.toInt).toNat → N.2.1 100 j = 0) → (FA N) → (WC N) → ((N.2.1 77 28).toInt = 0) → ((N.2.1 77 29).toInt = 0) → ((N.2.1 77 58).toInt = 0) → ((N.2.1 77 57).toInt = 0) → 6 - x1.toInt < (nn9 : Int) → mm_T X d 164 199 [.ref 77, .int x1] [] N Q) := by
  intro nn9
  induction nn9 with
  | zero =>
    intro N x1 hG F0 g1 g2 g3 g4 g5 g6 g7 g8 g9 hm
    have b_1 := g_b hG (a := 77) (i := 28) (lo := 0) (hi := 30) rfl rfl
    have b_2 := g_b hG (a := 77) (i := 29) (lo := 0) (hi := 150) rfl rfl
    have b_3 := g_b hG (a := 77) (i := 58) (lo := 0) (hi := 40) rfl rfl
    have b_4 := g_b hG (a := 77) (i := 57) (lo := 0) (hi := 1) rfl rfl
    exfalso; omega
  | succ nn9 ih =>
    intro N x1 hG F0 g1 g2 g3 g4 g5 g6 g7 g8 g9 hm
    have b_5 := g_b hG (a := 77) (i := 28) (lo := 0) (hi := 30) rfl rfl
    have b_6 := g_b hG (a := 77) (i := 29) (lo := 0) (hi := 150) rfl rfl
    have b_7 := g_b hG (a := 77) (i := 58) (lo := 0) (hi := 40) rfl rfl
    have b_8 := g_b hG (a := 77) (i := 57) (lo := 0) (hi := 1) rfl rfl
    refine to_in (pc := 199) rw_165_199 rfl (to_c (pc := 200) rw_165_200 (x := (6 : Int32)) rfl rfl (b_cge (pc := 202) rw_165_202 (A := x1.toInt) (B := 6) rfl rfl (fun h9 => ?_) (fun h9 => ?_)))
    · refine to_rv (pc := 218) rw_165_218 ?_
      have j_10 := PS_0 (fun j z => g3 j (by omega)) (by omega)
      exact h N hG F0 (by omega) (by omega) (by omega) (by omega) g4 g5 j_10
    · refine to_an (pc := 205) rw_165_205 rfl (s_gR (pc := 206) rw_165_206 hG rfl (v := 100) rfl (to_in (pc := 209) rw_165_209 rfl (to_c (pc := 210) rw_165_210 (x := (0 : Int32)) rfl rfl (s_ias (pc := 211) rw_165_211 hG rfl (n := 6) rfl (A := x1.toInt) rfl (by omega) (by omega) (fun M12 W11 => ?_)))))
      have hG13 := g_w hG W11 (A := 0) rfl (lo := 0) (hi := 30) rfl rfl (by omega) (by decide)
      have F14 := FR.w F0 W11 (show 100 = 77 ∧ (11 ≤ (x1.toInt).toNat ∧ (x1.toInt).toNat ≤ 13 ∨ (x1.toInt).toNat = 28 ∨ (x1.toInt).toNat = 29 ∨ (x1.toInt).toNat = 41 ∨ (x1.toInt).toNat = 57 ∨ (x1.toInt).toNat = 58) ∨ 80 ≤ 100 ∧ 100 ≤ 87 ∨ 100 = 100 by omega)
      refine s_inc (pc := 212) rw_165_212 (ls2 := fun v => [.ref 77, .int v]) rfl rfl (fun _ => rfl) (A := x1.toInt) (B := 1) rfl rfl (by omega) (fun v15 e16 => to_go (pc := 215) rw_165_215 ?_)
      have j_17 : ∀ j : Nat, j < (v15.toInt).toNat → M12.2.1 100 j = 0 := by
        rw [show (v15.toInt).toNat = (x1.toInt).toNat + 1 by omega]
        exact ZR_s (M1 := M12) g3 (fun i z => (W_n W11 (by omega) rfl)) (W_e W11)
      have j_18 := (FA_f (fun a i z => W_n W11 (tg_248 a i _ z) rfl) g4)
      have j_19 := (WC_f (fun a i z => W_n W11 (by /-r100-/ omega) rfl) g5)
      have c_20 : M12.2.1 77 28 = (N.2.1 77 28) := (W_n W11 (fun z => absurd z.1 (by decide)) rfl)
      have t_21 : (M12.2.1 77 28).toInt = (N.2.1 77 28).toInt := congrArg Int32.toInt c_20
      have c_22 : M12.2.1 77 29 = (N.2.1 77 29) := (W_n W11 (fun z => absurd z.1 (by decide)) rfl)
      have t_23 : (M12.2.1 77 29).toInt = (N.2.1 77 29).toInt := congrArg Int32.toInt c_22
      have c_24 : M12.2.1 77 58 = (N.2.1 77 58) := (W_n W11 (fun z => absurd z.1 (by decide)) rfl)
      have t_25 : (M12.2.1 77 58).toInt = (N.2.1 77 58).toInt := congrArg Int32.toInt c_24
      have c_26 : M12.2.1 77 57 = (N.2.1 77 57) := (W_n W11 (fun z => absurd z.1 (by decide)) rfl)
      have t_27 : (M12.2.1 77 57).toInt = (N.2.1 77 57).toInt := congrArg Int32.toInt c_26
      exact ih M12 v15 hG13 F14 (by omega) (by omega) j_17 j_18 j_19 (by omega) (by omega) (by omega) (by omega) (by omega)
set_option maxRecDepth 4000 in
set_option maxHeartbeats 0 in
theorem T_165_1 {X : mm_X} {d : Nat} {M : mm_M} {Q : Option Value → mm_M → Prop} (hX : g_X X) (hd : 0 ≤ d) (q1 : FA M) (q2 : WR M) (h : ∀ (M1 : mm_M), g_G M1 → FR md_ke M M1 → ((M1.2.1 77 28).toInt = 0) → ((M1.2.1 77 29).toInt = 0) → ((M1.2.1 77 58).toInt = 0) → ((M1.2.1 77 57).toInt = 0) → FA M1 → WC M1 → PS M1 → Q (none) M1) : ∀ nn9 : Nat, (∀ (N : mm_M) (x1 : Int32), g_G N → FR md_ke M N → (0 ≤ x1.toInt) → (x1.toInt ≤ 12) → ((N.2.1 77 13).toInt = (N.2.1 77 16).toInt) → (∀ j : Nat, j < 8 → N.2.1 81 j = N.2.1 81 (8 + j)) → (∀ j : Nat, j < (x1.toInt).toNat → N.2.1 86 j = N.2.1 86 (12 + j)) → (FA N) → (WR N) → 12 - x1.toInt < (nn9 : Int) → mm_T X d 164 115 [.ref 77, .int x1] [] N Q) := by
  intro nn9
  induction nn9 with
  | zero =>
    intro N x1 hG F0 g1 g2 g3 g4 g5 g6 g7 hm
    have b_28 := g_b hG (a := 77) (i := 13) (lo := 0) (hi := 12) rfl rfl
    have b_29 := g_b hG (a := 77) (i := 16) (lo := 0) (hi := 12) rfl rfl
    exfalso; omega
  | succ nn9 ih =>
    intro N x1 hG F0 g1 g2 g3 g4 g5 g6 g7 hm
    have b_30 := g_b hG (a := 77) (i := 13) (lo := 0) (hi := 12) rfl rfl
    have b_31 := g_b hG (a := 77) (i := 16) (lo := 0) (hi := 12) rfl rfl
    refine to_in (pc := 115) rw_165_115 rfl (to_c (pc := 116) rw_165_116 (x := (12 : Int32)) rfl rfl (b_cge (pc := 118) rw_165_118 (A := x1.toInt) (B := 12) rfl rfl (fun h32 => ?_) (fun h32 => ?_)))
    · refine to_an (pc := 172) rw_165_172 rfl (to_c (pc := 173) rw_165_173 (x := (0 : Int32)) rfl rfl (s_pI (pc := 174) rw_165_174 hG rfl (fun M34 W33 => ?_)))
      have hG35 := g_w hG W33 (A := 0) rfl (lo := 0) (hi := 30) rfl rfl (by omega) (by decide)
      have F36 := FR.w F0 W33 (show 77 = 77 ∧ (11 ≤ 28 ∧ 28 ≤ 13 ∨ 28 = 28 ∨ 28 = 29 ∨ 28 = 41 ∨ 28 = 57 ∨ 28 = 58) ∨ 80 ≤ 77 ∧ 77 ≤ 87 ∨ 77 = 100 by decide)
      refine to_an (pc := 177) rw_165_177 rfl (to_c (pc := 178) rw_165_178 (x := (0 : Int32)) rfl rfl (s_pI (pc := 179) rw_165_179 hG35 rfl (fun M38 W37 => ?_)))
      have hG39 := g_w hG35 W37 (A := 0) rfl (lo := 0) (hi := 150) rfl rfl (by omega) (by decide)
      have F40 := FR.w F36 W37 (show 77 = 77 ∧ (11 ≤ 29 ∧ 29 ≤ 13 ∨ 29 = 28 ∨ 29 = 29 ∨ 29 = 41 ∨ 29 = 57 ∨ 29 = 58) ∨ 80 ≤ 77 ∧ 77 ≤ 87 ∨ 77 = 100 by decide)
      refine to_an (pc := 182) rw_165_182 rfl (to_c (pc := 183) rw_165_183 (x := (0 : Int32)) rfl rfl (s_pI (pc := 184) rw_165_184 hG39 rfl (fun M42 W41 => ?_)))
      have hG43 := g_w hG39 W41 (A := 0) rfl (lo := 0) (hi := 40) rfl rfl (by omega) (by decide)
      have F44 := FR.w F40 W41 (show 77 = 77 ∧ (11 ≤ 58 ∧ 58 ≤ 13 ∨ 58 = 28 ∨ 58 = 29 ∨ 58 = 41 ∨ 58 = 57 ∨ 58 = 58) ∨ 80 ≤ 77 ∧ 77 ≤ 87 ∨ 77 = 100 by decide)
      refine to_an (pc := 187) rw_165_187 rfl (to_c (pc := 188) rw_165_188 (x := (0 : Int32)) rfl rfl (s_pZ (pc := 189) rw_165_189 hG43 rfl (A := 0) rfl (by omega) (fun M46 W45 => ?_)))
      have hG47 := g_w hG43 W45 (A := 0) rfl (lo := 0) (hi := 1) rfl rfl (by omega) (by decide)
      have F48 := FR.w F44 W45 (show 77 = 77 ∧ (11 ≤ 57 ∧ 57 ≤ 13 ∨ 57 = 28 ∨ 57 = 29 ∨ 57 = 41 ∨ 57 = 57 ∨ 57 = 58) ∨ 80 ≤ 77 ∧ 77 ≤ 87 ∨ 77 = 100 by decide)
      refine to_an (pc := 192) rw_165_192 rfl (to_c (pc := 193) rw_165_193 (x := (0 : Int32)) rfl rfl (s_pI (pc := 194) rw_165_194 hG47 rfl (fun M50 W49 => ?_)))
      have hG51 := g_wf hG47 W49 rfl rfl (by decide)
      have F52 := FR.w F48 W49 (show 77 = 77 ∧ (11 ≤ 41 ∧ 41 ≤ 13 ∨ 41 = 28 ∨ 41 = 29 ∨ 41 = 41 ∨ 41 = 57 ∨ 41 = 58) ∨ 80 ≤ 77 ∧ 77 ≤ 87 ∨ 77 = 100 by decide)
      refine to_c (pc := 197) rw_165_197 (x := (0 : Int32)) rfl rfl (to_isn (pc := 198) rw_165_198 (ls2 := [.ref 77, .int (0 : Int32)]) rfl rfl ?_)
      have k_53 : (0 : Int32).toInt = 0 := rfl
      have j_54 := CP_f (M1 := M50) g4 (fun i => (W_n W49 (by omega) (W_n W45 (by omega) (W_n W41 (by omega) (W_n W37 (by omega) (W_n W33 (by omega) rfl))))))
      have c_55 : M50.2.1 77 13 = (N.2.1 77 13) := (W_n W49 (by decide) (W_n W45 (by decide) (W_n W41 (by decide) (W_n W37 (by decide) (W_n W33 (by decide) rfl)))))
      have t_56 : (M50.2.1 77 13).toInt = (N.2.1 77 13).toInt := congrArg Int32.toInt c_55
      have c_57 : M50.2.1 77 16 = (N.2.1 77 16) := (W_n W49 (by decide) (W_n W45 (by decide) (W_n W41 (by decide) (W_n W37 (by decide) (W_n W33 (by decide) rfl)))))
      have t_58 : (M50.2.1 77 16).toInt = (N.2.1 77 16).toInt := congrArg Int32.toInt c_57
      have c_59 : M50.2.1 77 15 = (N.2.1 77 15) := (W_n W49 (by decide) (W_n W45 (by decide) (W_n W41 (by decide) (W_n W37 (by decide) (W_n W33 (by decide) rfl)))))
      have b_60 := g_b hG (a := 77) (i := 15) (lo := 0) (hi := 8) rfl rfl
      have t_61 : (M50.2.1 77 15).toInt = (N.2.1 77 15).toInt := congrArg Int32.toInt c_59
      have j_63 := (WR_f (fun a i z => W_n W49 (by /-r77,41-/ omega) rfl) (WR_f (fun a i z => W_n W45 (by /-r77,57-/ omega) rfl) (WR_f (fun a i z => W_n W41 (by /-r77,58-/ omega) rfl) (WR_f (fun a i z => W_n W37 (by /-r77,29-/ omega) rfl) (WR_f (fun a i z => W_n W33 (by /-r77,28-/ omega) rfl) g7)))))
      have j_62 := WC_k j_63 (by omega) (by omega) j_54 (fun j z => CP_f (M1 := M50) g5 (fun i => (W_n W49 (by omega) (W_n W45 (by omega) (W_n W41 (by omega) (W_n W37 (by omega) (W_n W33 (by omega) rfl)))))) j (by omega))
      have j_64 := (FA_f (fun a i z => W_n W49 (tg_249 a i z) rfl) (FA_f (fun a i z => W_n W45 (tg_250 a i z) rfl) (FA_f (fun a i z => W_n W41 (tg_251 a i z) rfl) (FA_f (fun a i z => W_n W37 (tg_252 a i z) rfl) (FA_f (fun a i z => W_n W33 (tg_253 a i z) rfl) g6)))))
      have c_65 : M50.2.1 77 28 = (0 : Int32) := (W_n W49 (by decide) (W_n W45 (by decide) (W_n W41 (by decide) (W_n W37 (by decide) (W_e W33)))))
      have t_66 : (M50.2.1 77 28).toInt = (0 : Int32).toInt := congrArg Int32.toInt c_65
      have c_67 : M50.2.1 77 29 = (0 : Int32) := (W_n W49 (by decide) (W_n W45 (by decide) (W_n W41 (by decide) (W_e W37))))
      have t_68 : (M50.2.1 77 29).toInt = (0 : Int32).toInt := congrArg Int32.toInt c_67
      have c_69 : M50.2.1 77 58 = (0 : Int32) := (W_n W49 (by decide) (W_n W45 (by decide) (W_e W41)))
      have t_70 : (M50.2.1 77 58).toInt = (0 : Int32).toInt := congrArg Int32.toInt c_69
      have c_71 : M50.2.1 77 57 = (0 : Int32) := (W_n W49 (by decide) (W_e W45))
      have t_72 : (M50.2.1 77 57).toInt = (0 : Int32).toInt := congrArg Int32.toInt c_71
      exact (T_165_0 hX hd q1 q2 h ((6 - (0 : Int32).toInt).toNat + 1)) M50 (0 : Int32) hG51 F52 (by omega) (by omega) (fun j z => absurd z (by omega)) j_64 j_62 (by omega) (by omega) (by omega) (by omega) (by omega)
    · refine to_an (pc := 121) rw_165_121 rfl (s_gR (pc := 122) rw_165_122 hG rfl (v := 85) rfl (to_in (pc := 125) rw_165_125 rfl (to_an (pc := 126) rw_165_126 rfl (s_gR (pc := 127) rw_165_127 hG rfl (v := 85) rfl (to_c (pc := 130) rw_165_130 (x := (12 : Int32)) rfl rfl (to_in (pc := 132) rw_165_132 rfl (s_add (pc := 133) rw_165_133 (A := 12) (B := x1.toInt) rfl rfl (by omega) (fun v73 e74 => s_ial (pc := 134) rw_165_134 hG rfl (n := 24) rfl rfl (A := v73.toInt) rfl (by omega) (by omega) (lo := -2147483648) (hi := 2147483647) rfl rfl (fun v75 w_76 _ _ => s_ias (pc := 135) rw_165_135 hG rfl (n := 24) rfl (A := x1.toInt) rfl (by omega) (by omega) (fun M78 W77 => ?_))))))))))
      have hG79 := g_wf hG W77 rfl rfl (by decide)
      have F80 := FR.w F0 W77 (show 85 = 77 ∧ (11 ≤ (x1.toInt).toNat ∧ (x1.toInt).toNat ≤ 13 ∨ (x1.toInt).toNat = 28 ∨ (x1.toInt).toNat = 29 ∨ (x1.toInt).toNat = 41 ∨ (x1.toInt).toNat = 57 ∨ (x1.toInt).toNat = 58) ∨ 80 ≤ 85 ∧ 85 ≤ 87 ∨ 85 = 100 by omega)
      refine to_an (pc := 136) rw_165_136 rfl (s_gR (pc := 137) rw_165_137 hG79 rfl (v := 86) rfl (to_in (pc := 140) rw_165_140 rfl (to_an (pc := 141) rw_165_141 rfl (s_gR (pc := 142) rw_165_142 hG79 rfl (v := 86) rfl (to_c (pc := 145) rw_165_145 (x := (12 : Int32)) rfl rfl (to_in (pc := 147) rw_165_147 rfl (s_add (pc := 148) rw_165_148 (A := 12) (B := x1.toInt) rfl rfl (by omega) (fun v81 e82 => s_ial (pc := 149) rw_165_149 hG79 rfl (n := 24) rfl rfl (A := v81.toInt) rfl (by omega) (by omega) (lo := 0) (hi := 7) rfl rfl (fun v83 w_84 _ _ => s_ias (pc := 150) rw_165_150 hG79 rfl (n := 24) rfl (A := x1.toInt) rfl (by omega) (by omega) (fun M86 W85 => ?_))))))))))
      have hG87 := g_w hG79 W85 (A := v83.toInt) rfl (lo := 0) (hi := 7) rfl rfl (by omega) (by decide)
      have F88 := FR.w F80 W85 (show 86 = 77 ∧ (11 ≤ (x1.toInt).toNat ∧ (x1.toInt).toNat ≤ 13 ∨ (x1.toInt).toNat = 28 ∨ (x1.toInt).toNat = 29 ∨ (x1.toInt).toNat = 41 ∨ (x1.toInt).toNat = 57 ∨ (x1.toInt).toNat = 58) ∨ 80 ≤ 86 ∧ 86 ≤ 87 ∨ 86 = 100 by omega)
      refine to_an (pc := 151) rw_165_151 rfl (s_gR (pc := 152) rw_165_152 hG87 rfl (v := 87) rfl (to_in (pc := 155) rw_165_155 rfl (to_an (pc := 156) rw_165_156 rfl (s_gR (pc := 157) rw_165_157 hG87 rfl (v := 87) rfl (to_c (pc := 160) rw_165_160 (x := (12 : Int32)) rfl rfl (to_in (pc := 162) rw_165_162 rfl (s_add (pc := 163) rw_165_163 (A := 12) (B := x1.toInt) rfl rfl (by omega) (fun v89 e90 => s_lal (pc := 164) rw_165_164 hG87 rfl (n := 24) rfl (A := v89.toInt) rfl (by omega) (by omega) (fun l91 => s_las (pc := 165) rw_165_165 hG87 rfl (n := 24) rfl (A := x1.toInt) rfl (by omega) (by omega) (fun M93 W92 => ?_))))))))))
      have hG94 := g_wl hG87 W92
      have F95 := FR.wl F88 W92 (show 87 = 77 ∧ (11 ≤ (x1.toInt).toNat ∧ (x1.toInt).toNat ≤ 13 ∨ (x1.toInt).toNat = 28 ∨ (x1.toInt).toNat = 29 ∨ (x1.toInt).toNat = 41 ∨ (x1.toInt).toNat = 57 ∨ (x1.toInt).toNat = 58) ∨ 80 ≤ 87 ∧ 87 ≤ 87 ∨ 87 = 100 by omega)
      refine s_inc (pc := 166) rw_165_166 (ls2 := fun v => [.ref 77, .int v]) rfl rfl (fun _ => rfl) (A := x1.toInt) (B := 1) rfl rfl (by omega) (fun v96 e97 => to_go (pc := 169) rw_165_169 ?_)
      have c_98 : M93.2.1 77 13 = (N.2.1 77 13) := (W_l W92 (W_n W85 (fun z => absurd z.1 (by decide)) (W_n W77 (fun z => absurd z.1 (by decide)) rfl)))
      have t_99 : (M93.2.1 77 13).toInt = (N.2.1 77 13).toInt := congrArg Int32.toInt c_98
      have c_100 : M93.2.1 77 16 = (N.2.1 77 16) := (W_l W92 (W_n W85 (fun z => absurd z.1 (by decide)) (W_n W77 (fun z => absurd z.1 (by decide)) rfl)))
      have t_101 : (M93.2.1 77 16).toInt = (N.2.1 77 16).toInt := congrArg Int32.toInt c_100
      have j_102 := CP_f (M1 := M93) g4 (fun i => (W_l W92 (W_n W85 (by omega) (W_n W77 (by omega) rfl))))
      have j_103 : ∀ j : Nat, j < (v96.toInt).toNat → M93.2.1 86 j = M93.2.1 86 (12 + j) := by
        rw [show (v96.toInt).toNat = (x1.toInt).toNat + 1 by omega]
        exact CP_s (M1 := M93) g5 (by omega) (fun i z => (W_l W92 (W_n W85 (by omega) (W_n W77 (by omega) rfl)))) (W_l W92 (W_e W85)) (by rw [show 12 + (x1.toInt).toNat = (v81.toInt).toNat by omega]; exact (Eq.trans (Eq.symm (Eq.trans (W_n W77 (by omega) rfl) rfl)) w_84))
      have j_104 := (FA_f (fun a i z => W_l W92 rfl) (FA_f (fun a i z => W_n W85 (tg_254 a i _ z) rfl) (FA_f (fun a i z => W_n W77 (tg_255 a i _ z) rfl) g6)))
      have j_105 := (WR_f (fun a i z => W_l W92 rfl) (WR_f (fun a i z => W_n W85 (by /-r86-/ omega) rfl) (WR_f (fun a i z => W_n W77 (by /-r85-/ omega) rfl) g7)))
      exact ih M93 v96 hG94 F95 (by omega) (by omega) (by omega) j_102 j_103 j_104 j_105 (by omega)
set_option maxRecDepth 4000 in
set_option maxHeartbeats 0 in
theorem T_165_2 {X : mm_X} {d : Nat} {M : mm_M} {Q : Option Value → mm_M → Prop} (hX : g_X X) (hd : 0 ≤ d) (q1 : FA M) (q2 : WR M) (h : ∀ (M1 : mm_M), g_G M1 → FR md_ke M M1 → ((M1.2.1 77 28).toInt = 0) → ((M1.2.1 77 29).toInt = 0) → ((M1.2.1 77 58).toInt = 0) → ((M1.2.1 77 57).toInt = 0) → FA M1 → WC M1 → PS M1 → Q (none) M1) : ∀ nn9 : Nat, (∀ (N : mm_M) (x1 : Int32), g_G N → FR md_ke M N → (0 ≤ x1.toInt) → (x1.toInt ≤ 8) → ((N.2.1 77 13).toInt = (N.2.1 77 16).toInt) → (∀ j : Nat, j < (x1.toInt).toNat → N.2.1 81 j = N.2.1 81 (8 + j)) → (FA N) → (WR N) → 8 - x1.toInt < (nn9 : Int) → mm_T X d 164 26 [.ref 77, .int x1] [] N Q) := by
  intro nn9
  induction nn9 with
  | zero =>
    intro N x1 hG F0 g1 g2 g3 g4 g5 g6 hm
    have b_106 := g_b hG (a := 77) (i := 13) (lo := 0) (hi := 12) rfl rfl
    have b_107 := g_b hG (a := 77) (i := 16) (lo := 0) (hi := 12) rfl rfl
    exfalso; omega
  | succ nn9 ih =>
    intro N x1 hG F0 g1 g2 g3 g4 g5 g6 hm
    have b_108 := g_b hG (a := 77) (i := 13) (lo := 0) (hi := 12) rfl rfl
    have b_109 := g_b hG (a := 77) (i := 16) (lo := 0) (hi := 12) rfl rfl
    refine to_in (pc := 26) rw_165_26 rfl (to_c (pc := 27) rw_165_27 (x := (8 : Int32)) rfl rfl (b_cge (pc := 29) rw_165_29 (A := x1.toInt) (B := 8) rfl rfl (fun h110 => ?_) (fun h110 => ?_)))
    · refine to_c (pc := 113) rw_165_113 (x := (0 : Int32)) rfl rfl (to_isn (pc := 114) rw_165_114 (ls2 := [.ref 77, .int (0 : Int32)]) rfl rfl ?_)
      have k_111 : (0 : Int32).toInt = 0 := rfl
      have j_112 : ∀ j : Nat, j < 8 → N.2.1 81 j = N.2.1 81 (8 + j) := fun j z => CP_f (M1 := N) g4 (fun i => rfl) j (by omega)
      exact (T_165_1 hX hd q1 q2 h ((12 - (0 : Int32).toInt).toNat + 1)) N (0 : Int32) hG F0 (by omega) (by omega) (by omega) j_112 (fun j z => absurd z (by omega)) g5 g6 (by omega)
    · refine to_an (pc := 32) rw_165_32 rfl (s_gR (pc := 33) rw_165_33 hG rfl (v := 80) rfl (to_in (pc := 36) rw_165_36 rfl (to_an (pc := 37) rw_165_37 rfl (s_gR (pc := 38) rw_165_38 hG rfl (v := 80) rfl (to_c (pc := 41) rw_165_41 (x := (8 : Int32)) rfl rfl (to_in (pc := 43) rw_165_43 rfl (s_add (pc := 44) rw_165_44 (A := 8) (B := x1.toInt) rfl rfl (by omega) (fun v114 e115 => s_ial (pc := 45) rw_165_45 hG rfl (n := 16) rfl rfl (A := v114.toInt) rfl (by omega) (by omega) (lo := -2147483648) (hi := 2147483647) rfl rfl (fun v116 w_117 _ _ => s_ias (pc := 46) rw_165_46 hG rfl (n := 16) rfl (A := x1.toInt) rfl (by omega) (by omega) (fun M119 W118 => ?_))))))))))
      have hG120 := g_wf hG W118 rfl rfl (by decide)
      have F121 := FR.w F0 W118 (show 80 = 77 ∧ (11 ≤ (x1.toInt).toNat ∧ (x1.toInt).toNat ≤ 13 ∨ (x1.toInt).toNat = 28 ∨ (x1.toInt).toNat = 29 ∨ (x1.toInt).toNat = 41 ∨ (x1.toInt).toNat = 57 ∨ (x1.toInt).toNat = 58) ∨ 80 ≤ 80 ∧ 80 ≤ 87 ∨ 80 = 100 by omega)
      have j_122 := (FA_f (fun a i z => W_n W118 (tg_229 a i _ z) rfl) g5)
      refine to_an (pc := 47) rw_165_47 rfl (s_gR (pc := 48) rw_165_48 hG120 rfl (v := 81) rfl (to_in (pc := 51) rw_165_51 rfl (to_an (pc := 52) rw_165_52 rfl (s_gR (pc := 53) rw_165_53 hG120 rfl (v := 81) rfl (to_c (pc := 56) rw_165_56 (x := (8 : Int32)) rfl rfl (to_in (pc := 58) rw_165_58 rfl (s_add (pc := 59) rw_165_59 (A := 8) (B := x1.toInt) rfl rfl (by omega) (fun v123 e124 => s_ial (pc := 60) rw_165_60 hG120 rfl (n := 16) rfl rfl (A := v123.toInt) rfl (by omega) (by omega) (lo := 0) (hi := 3) rfl rfl (fun v125 w_126 _ _ => s_ias (pc := 61) rw_165_61 hG120 rfl (n := 16) rfl (A := x1.toInt) rfl (by omega) (by omega) (fun M128 W127 => ?_))))))))))
      have hG129 := g_w hG120 W127 (A := v125.toInt) rfl (lo := 0) (hi := 3) rfl rfl (by omega) (by decide)
      have F130 := FR.w F121 W127 (show 81 = 77 ∧ (11 ≤ (x1.toInt).toNat ∧ (x1.toInt).toNat ≤ 13 ∨ (x1.toInt).toNat = 28 ∨ (x1.toInt).toNat = 29 ∨ (x1.toInt).toNat = 41 ∨ (x1.toInt).toNat = 57 ∨ (x1.toInt).toNat = 58) ∨ 80 ≤ 81 ∧ 81 ≤ 87 ∨ 81 = 100 by omega)
      refine to_an (pc := 62) rw_165_62 rfl (s_gR (pc := 63) rw_165_63 hG129 rfl (v := 82) rfl (to_in (pc := 66) rw_165_66 rfl (to_an (pc := 67) rw_165_67 rfl (s_gR (pc := 68) rw_165_68 hG129 rfl (v := 82) rfl (to_c (pc := 71) rw_165_71 (x := (8 : Int32)) rfl rfl (to_in (pc := 73) rw_165_73 rfl (s_add (pc := 74) rw_165_74 (A := 8) (B := x1.toInt) rfl rfl (by omega) (fun v131 e132 => s_ial (pc := 75) rw_165_75 hG129 rfl (n := 16) rfl rfl (A := v131.toInt) rfl (by omega) (by omega) (lo := 0) (hi := 59) rfl rfl (fun v133 w_134 _ _ => s_ias (pc := 76) rw_165_76 hG129 rfl (n := 16) rfl (A := x1.toInt) rfl (by omega) (by omega) (fun M136 W135 => ?_))))))))))
      have hG137 := g_w hG129 W135 (A := v133.toInt) rfl (lo := 0) (hi := 59) rfl rfl (by omega) (by decide)
      have F138 := FR.w F130 W135 (show 82 = 77 ∧ (11 ≤ (x1.toInt).toNat ∧ (x1.toInt).toNat ≤ 13 ∨ (x1.toInt).toNat = 28 ∨ (x1.toInt).toNat = 29 ∨ (x1.toInt).toNat = 41 ∨ (x1.toInt).toNat = 57 ∨ (x1.toInt).toNat = 58) ∨ 80 ≤ 82 ∧ 82 ≤ 87 ∨ 82 = 100 by omega)
      refine to_an (pc := 77) rw_165_77 rfl (s_gR (pc := 78) rw_165_78 hG137 rfl (v := 83) rfl (to_in (pc := 81) rw_165_81 rfl (to_an (pc := 82) rw_165_82 rfl (s_gR (pc := 83) rw_165_83 hG137 rfl (v := 83) rfl (to_c (pc := 86) rw_165_86 (x := (8 : Int32)) rfl rfl (to_in (pc := 88) rw_165_88 rfl (s_add (pc := 89) rw_165_89 (A := 8) (B := x1.toInt) rfl rfl (by omega) (fun v139 e140 => s_ial (pc := 90) rw_165_90 hG137 rfl (n := 16) rfl rfl (A := v139.toInt) rfl (by omega) (by omega) (lo := 0) (hi := 63) rfl rfl (fun v141 w_142 _ _ => s_ias (pc := 91) rw_165_91 hG137 rfl (n := 16) rfl (A := x1.toInt) rfl (by omega) (by omega) (fun M144 W143 => ?_))))))))))
      have hG145 := g_w hG137 W143 (A := v141.toInt) rfl (lo := 0) (hi := 63) rfl rfl (by omega) (by decide)
      have F146 := FR.w F138 W143 (show 83 = 77 ∧ (11 ≤ (x1.toInt).toNat ∧ (x1.toInt).toNat ≤ 13 ∨ (x1.toInt).toNat = 28 ∨ (x1.toInt).toNat = 29 ∨ (x1.toInt).toNat = 41 ∨ (x1.toInt).toNat = 57 ∨ (x1.toInt).toNat = 58) ∨ 80 ≤ 83 ∧ 83 ≤ 87 ∨ 83 = 100 by omega)
      refine to_an (pc := 92) rw_165_92 rfl (s_gR (pc := 93) rw_165_93 hG145 rfl (v := 84) rfl (to_in (pc := 96) rw_165_96 rfl (to_an (pc := 97) rw_165_97 rfl (s_gR (pc := 98) rw_165_98 hG145 rfl (v := 84) rfl (to_c (pc := 101) rw_165_101 (x := (8 : Int32)) rfl rfl (to_in (pc := 103) rw_165_103 rfl (s_add (pc := 104) rw_165_104 (A := 8) (B := x1.toInt) rfl rfl (by omega) (fun v147 e148 => s_ial (pc := 105) rw_165_105 hG145 rfl (n := 16) rfl rfl (A := v147.toInt) rfl (by omega) (by omega) (lo := 0) (hi := 24) rfl rfl (fun v149 w_150 _ _ => s_ias (pc := 106) rw_165_106 hG145 rfl (n := 16) rfl (A := x1.toInt) rfl (by omega) (by omega) (fun M152 W151 => ?_))))))))))
      have hG153 := g_w hG145 W151 (A := v149.toInt) rfl (lo := 0) (hi := 24) rfl rfl (by omega) (by decide)
      have F154 := FR.w F146 W151 (show 84 = 77 ∧ (11 ≤ (x1.toInt).toNat ∧ (x1.toInt).toNat ≤ 13 ∨ (x1.toInt).toNat = 28 ∨ (x1.toInt).toNat = 29 ∨ (x1.toInt).toNat = 41 ∨ (x1.toInt).toNat = 57 ∨ (x1.toInt).toNat = 58) ∨ 80 ≤ 84 ∧ 84 ≤ 87 ∨ 84 = 100 by omega)
      have j_155 := FA_copy (m := (v123.toInt).toNat) j_122 ((Eq.trans (Eq.symm rfl) w_126)) (by rw [show (v123.toInt).toNat = (v131.toInt).toNat by omega]; exact (Eq.trans (Eq.symm (Eq.trans (W_n W127 (by omega) rfl) rfl)) w_134)) (by rw [show (v123.toInt).toNat = (v139.toInt).toNat by omega]; exact (Eq.trans (Eq.symm (Eq.trans (W_n W135 (by omega) rfl) (Eq.trans (W_n W127 (by omega) rfl) rfl))) w_142)) (by rw [show (v123.toInt).toNat = (v147.toInt).toNat by omega]; exact (Eq.trans (Eq.symm (Eq.trans (W_n W143 (by omega) rfl) (Eq.trans (W_n W135 (by omega) rfl) (Eq.trans (W_n W127 (by omega) rfl) rfl)))) w_150)) W127 W135 W143 W151
      refine s_inc (pc := 107) rw_165_107 (ls2 := fun v => [.ref 77, .int v]) rfl rfl (fun _ => rfl) (A := x1.toInt) (B := 1) rfl rfl (by omega) (fun v156 e157 => to_go (pc := 110) rw_165_110 ?_)
      have c_158 : M152.2.1 77 13 = (N.2.1 77 13) := (W_n W151 (fun z => absurd z.1 (by decide)) (W_n W143 (fun z => absurd z.1 (by decide)) (W_n W135 (fun z => absurd z.1 (by decide)) (W_n W127 (fun z => absurd z.1 (by decide)) (W_n W118 (fun z => absurd z.1 (by decide)) rfl)))))
      have t_159 : (M152.2.1 77 13).toInt = (N.2.1 77 13).toInt := congrArg Int32.toInt c_158
      have c_160 : M152.2.1 77 16 = (N.2.1 77 16) := (W_n W151 (fun z => absurd z.1 (by decide)) (W_n W143 (fun z => absurd z.1 (by decide)) (W_n W135 (fun z => absurd z.1 (by decide)) (W_n W127 (fun z => absurd z.1 (by decide)) (W_n W118 (fun z => absurd z.1 (by decide)) rfl)))))
      have t_161 : (M152.2.1 77 16).toInt = (N.2.1 77 16).toInt := congrArg Int32.toInt c_160
      have j_162 : ∀ j : Nat, j < (v156.toInt).toNat → M152.2.1 81 j = M152.2.1 81 (8 + j) := by
        rw [show (v156.toInt).toNat = (x1.toInt).toNat + 1 by omega]
        exact CP_s (M1 := M152) g4 (by omega) (fun i z => (W_n W151 (by omega) (W_n W143 (by omega) (W_n W135 (by omega) (W_n W127 (by omega) (W_n W118 (by omega) rfl)))))) (W_n W151 (by omega) (W_n W143 (by omega) (W_n W135 (by omega) (W_e W127)))) (by rw [show 8 + (x1.toInt).toNat = (v123.toInt).toNat by omega]; exact (Eq.trans (Eq.symm (Eq.trans (W_n W118 (by omega) rfl) rfl)) w_126))
      have j_163 := (WR_f (fun a i z => W_n W151 (by /-r84-/ omega) rfl) (WR_f (fun a i z => W_n W143 (by /-r83-/ omega) rfl) (WR_f (fun a i z => W_n W135 (by /-r82-/ omega) rfl) (WR_f (fun a i z => W_n W127 (by /-r81-/ omega) rfl) (WR_f (fun a i z => W_n W118 (by /-r80-/ omega) rfl) g6)))))
      exact ih M152 v156 hG153 F154 (by omega) (by omega) (by omega) j_162 j_155 j_163 (by omega)
set_option maxRecDepth 4000 in
set_option maxHeartbeats 0 in
theorem C_165 {X : mm_X} {d : Nat} {M : mm_M} {Q : Option Value → mm_M → Prop} (hX : g_X X) (hd : 0 ≤ d) (hG : g_G M) (q1 : FA M) (q2 : WR M) (h : ∀ (M1 : mm_M), g_G M1 → FR md_ke M M1 → ((M1.2.1 77 28).toInt = 0) → ((M1.2.1 77 29).toInt = 0) → ((M1.2.1 77 58).toInt = 0) → ((M1.2.1 77 57).toInt = 0) → FA M1 → WC M1 → PS M1 → Q (none) M1) : mm_T X d 164 0 [.ref 77, .null] [] M Q := by
  have F0 : FR md_ke M M := FR.rf
  refine to_an (pc := 0) rw_165_0 rfl (to_an (pc := 1) rw_165_1 rfl ?_)
  have b_164 := g_b hG (a := 77) (i := 14) (lo := 10) (hi := 60) rfl rfl
  refine tt_gI (pc := 2) rw_165_2 (g_o hG rfl) (v := (M.2.1 77 14)) rfl (s_pI (pc := 5) rw_165_5 hG rfl (fun M166 W165 => ?_))
  have hG167 := g_w hG W165 (A := (M.2.1 77 14).toInt) rfl (lo := 10) (hi := 60) rfl rfl (by omega) (by decide)
  have F168 := FR.w F0 W165 (show 77 = 77 ∧ (11 ≤ 11 ∧ 11 ≤ 13 ∨ 11 = 28 ∨ 11 = 29 ∨ 11 = 41 ∨ 11 = 57 ∨ 11 = 58) ∨ 80 ≤ 77 ∧ 77 ≤ 87 ∨ 77 = 100 by decide)
  refine to_an (pc := 8) rw_165_8 rfl (to_an (pc := 9) rw_165_9 rfl ?_)
  have c_169 : M166.2.1 77 15 = (M.2.1 77 15) := (W_n W165 (by decide) rfl)
  have b_170 := g_b hG (a := 77) (i := 15) (lo := 0) (hi := 8) rfl rfl
  refine tt_gI (pc := 10) rw_165_10 (g_o hG167 rfl) (v := (M.2.1 77 15)) c_169 (s_pI (pc := 13) rw_165_13 hG167 rfl (fun M172 W171 => ?_))
  have hG173 := g_w hG167 W171 (A := (M.2.1 77 15).toInt) rfl (lo := 0) (hi := 8) rfl rfl (by omega) (by decide)
  have F174 := FR.w F168 W171 (show 77 = 77 ∧ (11 ≤ 12 ∧ 12 ≤ 13 ∨ 12 = 28 ∨ 12 = 29 ∨ 12 = 41 ∨ 12 = 57 ∨ 12 = 58) ∨ 80 ≤ 77 ∧ 77 ≤ 87 ∨ 77 = 100 by decide)
  refine to_an (pc := 16) rw_165_16 rfl (to_an (pc := 17) rw_165_17 rfl ?_)
  have c_175 : M172.2.1 77 16 = (M.2.1 77 16) := (W_n W171 (by decide) (W_n W165 (by decide) rfl))
  have b_176 := g_b hG (a := 77) (i := 16) (lo := 0) (hi := 12) rfl rfl
  refine tt_gI (pc := 18) rw_165_18 (g_o hG173 rfl) (v := (M.2.1 77 16)) c_175 (s_pI (pc := 21) rw_165_21 hG173 rfl (fun M178 W177 => ?_))
  have hG179 := g_w hG173 W177 (A := (M.2.1 77 16).toInt) rfl (lo := 0) (hi := 12) rfl rfl (by omega) (by decide)
  have F180 := FR.w F174 W177 (show 77 = 77 ∧ (11 ≤ 13 ∧ 13 ≤ 13 ∨ 13 = 28 ∨ 13 = 29 ∨ 13 = 41 ∨ 13 = 57 ∨ 13 = 58) ∨ 80 ≤ 77 ∧ 77 ≤ 87 ∨ 77 = 100 by decide)
  refine to_c (pc := 24) rw_165_24 (x := (0 : Int32)) rfl rfl (to_isn (pc := 25) rw_165_25 (ls2 := [.ref 77, .int (0 : Int32)]) rfl rfl ?_)
  have k_181 : (0 : Int32).toInt = 0 := rfl
  have c_182 : M178.2.1 77 13 = (M.2.1 77 16) := (W_e W177)
  have t_183 : (M178.2.1 77 13).toInt = (M.2.1 77 16).toInt := congrArg Int32.toInt c_182
  have c_184 : M178.2.1 77 16 = (M.2.1 77 16) := (W_n W177 (by decide) c_175)
  have t_185 : (M178.2.1 77 16).toInt = (M.2.1 77 16).toInt := congrArg Int32.toInt c_184
  have j_187 := (FA_f (fun a i z => W_n W177 (tg_256 a i z) rfl) (FA_f (fun a i z => W_n W171 (tg_257 a i z) rfl) (FA_f (fun a i z => W_n W165 (tg_258 a i z) rfl) q1)))
  have j_188 := (WR_f (fun a i z => W_n W177 (by /-r77,13-/ omega) rfl) (WR_f (fun a i z => W_n W171 (by /-r77,12-/ omega) rfl) (WR_f (fun a i z => W_n W165 (by /-r77,11-/ omega) rfl) q2)))
  exact (T_165_2 hX hd q1 q2 h ((8 - (0 : Int32).toInt).toNat + 1)) M178 (0 : Int32) hG179 F180 (by omega) (by omega) (by omega) (fun j z => absurd z (by omega)) j_187 j_188 (by omega)
set_option maxRecDepth 4000 in
set_option maxHeartbeats 0 in
theorem T_173_0 {X : mm_X} {d : Nat} {M : mm_M} {Q : Option Value → mm_M → Prop} {n : Int32} (hX : g_X X) (hd : 5 ≤ d) (q1 : (M.2.1 77 7).toInt ≤ (M.2.1 77 6).toInt) (q2 : FA M) (q3 : WC M) (q4 : NJ M) (q5 : PS M) (q6 : KQ M) (h : ∀ (r : Int32) (M1 : mm_M), g_G M1 → FR md_P M M1 → ((M1.2.1 77 7).toInt ≤ (M1.2.1 77 6).toInt) → FA M1 → WC M1 → NJ M1 → PS M1 → KQ M1 → (n.toInt < 0 ∨ (M.2.1 77 1).toInt < n.toInt → (M1.2.1 77 1).toInt = (M.2.1 77 1).toInt) → (0 ≤ n.toInt ∧ n.toInt ≤ (M.2.1 77 1).toInt → (M1.2.1 77 1).toInt = 0) → Q (some (.int r)) M1) : ∀ nn9 : Nat, (∀ (N : mm_M) (u1 : Value) (x2 : Int32), g_G N → FR md_P M N → ((N.2.1 77 7).toInt ≤ (N.2.1 77 6).toInt) → (FA N) → (WC N) → (NJ N) → (PS N) → (KQ N) → (WR N) → ((N.2.1 77 1).toInt = 0) → (0 ≤ n.toInt) → (n.toInt ≤ (M.2.1 77 1).toInt) → 6 * (500 - (N.2.1 77 7).toInt) + (N.2.1 77 8).toInt < (nn9 : Int) → mm_T X d 172 22 [.ref 77, u1, .int x2] [] N Q) := by
  intro nn9
  induction nn9 with
  | zero =>
    intro N u1 x2 hG F0 g1 g2 g3 g4 g5 g6 g7 g8 g9 g10 hm
    have b_1 := g_b hG (a := 77) (i := 7) (lo := 0) (hi := 500) rfl rfl
    have b_2 := g_b hG (a := 77) (i := 8) (lo := 0) (hi := 5) rfl rfl
    have b_3 := g_b hG (a := 77) (i := 6) (lo := 0) (hi := 500) rfl rfl
    have b_4 := g_b hG (a := 77) (i := 1) (lo := 0) (hi := 500) rfl rfl
    exfalso; omega
  | succ nn9 ih =>
    intro N u1 x2 hG F0 g1 g2 g3 g4 g5 g6 g7 g8 g9 g10 hm
    have b_5 := g_b hG (a := 77) (i := 7) (lo := 0) (hi := 500) rfl rfl
    have b_6 := g_b hG (a := 77) (i := 8) (lo := 0) (hi := 5) rfl rfl
    have b_7 := g_b hG (a := 77) (i := 6) (lo := 0) (hi := 500) rfl rfl
    have b_8 := g_b hG (a := 77) (i := 1) (lo := 0) (hi := 500) rfl rfl
    refine to_an (pc := 22) rw_173_22 rfl (tt_gI (pc := 23) rw_173_23 (g_o hG rfl) (v := (N.2.1 77 8)) rfl (b_ieq (pc := 26) rw_173_26 (A := (N.2.1 77 8).toInt) rfl (fun h9 => ?_) (fun h9 => ?_)))
    · refine to_an (pc := 53) rw_173_53 rfl (s_v (pc := 54) rw_173_54 (dp0 hd (by decide)) (ls0 := [.ref 77, .null]) rfl (Nat.le_of_ble_eq_true rfl) (Nat.le_of_ble_eq_true rfl) rfl (to_rc rfl rfl rfl (g_o hG rfl)) rfl (C_165 hX (dp1 hd (by decide)) hG g2 g7  (fun M19 hG11 F10 p_12 p_13 p_14 p_15 p_16 p_17 p_18 => ?_)))
      have F20 := FR.c F0 F10 tg_81
      have b_21 := g_b hG11 (a := 77) (i := 28) (lo := 0) (hi := 30) rfl rfl
      have b_22 := g_b hG11 (a := 77) (i := 29) (lo := 0) (hi := 150) rfl rfl
      have b_23 := g_b hG11 (a := 77) (i := 58) (lo := 0) (hi := 40) rfl rfl
      have b_24 := g_b hG11 (a := 77) (i := 57) (lo := 0) (hi := 1) rfl rfl
      have j_25 : NJ M19 := NJ_0 (by omega)
      have j_26 : KQ M19 := KQ_0 (by omega) (by omega)
      refine to_in (pc := 57) rw_173_57 rfl (to_r0 (pc := 58) rw_173_58 ?_)
      have c_27 : M19.2.1 77 7 = (N.2.1 77 7) := (F_n F10 (show ¬ (77 = 77 ∧ (11 ≤ 7 ∧ 7 ≤ 13 ∨ 7 = 28 ∨ 7 = 29 ∨ 7 = 41 ∨ 7 = 57 ∨ 7 = 58) ∨ 80 ≤ 77 ∧ 77 ≤ 87 ∨ 77 = 100) by decide) rfl)
      have t_28 : (M19.2.1 77 7).toInt = (N.2.1 77 7).toInt := congrArg Int32.toInt c_27
      have c_29 : M19.2.1 77 6 = (N.2.1 77 6) := (F_n F10 (show ¬ (77 = 77 ∧ (11 ≤ 6 ∧ 6 ≤ 13 ∨ 6 = 28 ∨ 6 = 29 ∨ 6 = 41 ∨ 6 = 57 ∨ 6 = 58) ∨ 80 ≤ 77 ∧ 77 ≤ 87 ∨ 77 = 100) by decide) rfl)
      have t_30 : (M19.2.1 77 6).toInt = (N.2.1 77 6).toInt := congrArg Int32.toInt c_29
      have c_31 : M19.2.1 77 1 = (N.2.1 77 1) := (F_n F10 (show ¬ (77 = 77 ∧ (11 ≤ 1 ∧ 1 ≤ 13 ∨ 1 = 28 ∨ 1 = 29 ∨ 1 = 41 ∨ 1 = 57 ∨ 1 = 58) ∨ 80 ≤ 77 ∧ 77 ≤ 87 ∨ 77 = 100) by decide) rfl)
      have t_32 : (M19.2.1 77 1).toInt = (N.2.1 77 1).toInt := congrArg Int32.toInt c_31
      exact h x2 M19 hG11 F20 (by omega) p_16 p_17 j_25 p_18 j_26 (by omega) (by omega)
    · refine to_an (pc := 29) rw_173_29 rfl (to_in (pc := 30) rw_173_30 rfl (b_ine (pc := 31) rw_173_31 (A := x2.toInt) rfl (fun h33 => ?_) (fun h33 => ?_)))
      · refine to_c (pc := 38) rw_173_38 (x := (0 : Int32)) rfl rfl (s_v (pc := 39) rw_173_39 (dp0 hd (by decide)) (ls0 := [.ref 77, .int (0 : Int32)]) rfl (Nat.le_of_ble_eq_true rfl) (Nat.le_of_ble_eq_true rfl) rfl (to_rc rfl rfl rfl (g_o hG rfl)) rfl ?_)
        have k_34 : (0 : Int32).toInt = 0 := rfl
        refine C_172 hX (dp1 hd (by decide)) hG (by omega) (by omega) (by omega) g2 g7 (x := (0 : Int32)) (fun r35 M46 hG37 F36 p_38 p_39 p_40 p_41 p_42 p_43 p_44 p_45 => ?_)
        have F47 := FR.c F0 F36 tg_82
        have b_48 := g_b hG37 (a := 77) (i := 7) (lo := 0) (hi := 500) rfl rfl
        have c_49 : M46.2.1 77 6 = (N.2.1 77 6) := (F_n F36 (show ¬ (77 = 77 ∧ (6 = 4 ∨ 6 = 5 ∨ 7 ≤ 6 ∧ 6 ≤ 10 ∨ 14 ≤ 6 ∧ 6 ≤ 16 ∨ 6 = 25) ∨ 80 ≤ 77 ∧ 77 ≤ 84 ∧ 8 ≤ 6 ∨ 85 ≤ 77 ∧ 77 ≤ 87 ∧ 12 ≤ 6) by decide) rfl)
        have t_50 : (M46.2.1 77 6).toInt = (N.2.1 77 6).toInt := congrArg Int32.toInt c_49
        have b_51 := g_b hG37 (a := 77) (i := 8) (lo := 0) (hi := 5) rfl rfl
        refine b_ine (pc := 42) rw_173_42 (A := r35.toInt) rfl (fun h52 => ?_) (fun h52 => ?_)
        · refine s_incx (pc := 47) rw_173_47 (ls2 := fun v => [.ref 77, u1, .int v]) rfl rfl (fun _ => rfl) (fun v53 => to_go (pc := 50) rw_173_50 ?_)
          have j_55 := (WC_f (tg_234 F36) g3)
          have j_56 := (NJ_f (tg_235 F36) g4)
          have j_57 := (PS_f (tg_236 F36) g5)
          have j_58 := (KQ_f (tg_237 F36) g6)
          have c_59 : M46.2.1 77 1 = (N.2.1 77 1) := (F_n F36 (show ¬ (77 = 77 ∧ (1 = 4 ∨ 1 = 5 ∨ 7 ≤ 1 ∧ 1 ≤ 10 ∨ 14 ≤ 1 ∧ 1 ≤ 16 ∨ 1 = 25) ∨ 80 ≤ 77 ∧ 77 ≤ 84 ∧ 8 ≤ 1 ∨ 85 ≤ 77 ∧ 77 ≤ 87 ∧ 12 ≤ 1) by decide) rfl)
          have t_60 : (M46.2.1 77 1).toInt = (N.2.1 77 1).toInt := congrArg Int32.toInt c_59
          exact ih M46 (u1) v53 hG37 F47 (by omega) p_44 j_55 j_56 j_57 j_58 p_45 (by omega) (by omega) (by omega) (by omega)
        · refine to_c (pc := 45) rw_173_45 (x := (-1 : Int32)) rfl rfl (to_r0 (pc := 46) rw_173_46 ?_)
          have k_61 : (-1 : Int32).toInt = -1 := rfl
          have j_62 := (WC_f (tg_234 F36) g3)
          have j_63 := (NJ_f (tg_235 F36) g4)
          have j_64 := (PS_f (tg_236 F36) g5)
          have j_65 := (KQ_f (tg_237 F36) g6)
          have c_66 : M46.2.1 77 1 = (N.2.1 77 1) := (F_n F36 (show ¬ (77 = 77 ∧ (1 = 4 ∨ 1 = 5 ∨ 7 ≤ 1 ∧ 1 ≤ 10 ∨ 14 ≤ 1 ∧ 1 ≤ 16 ∨ 1 = 25) ∨ 80 ≤ 77 ∧ 77 ≤ 84 ∧ 8 ≤ 1 ∨ 85 ≤ 77 ∧ 77 ≤ 87 ∧ 12 ≤ 1) by decide) rfl)
          have t_67 : (M46.2.1 77 1).toInt = (N.2.1 77 1).toInt := congrArg Int32.toInt c_66
          exact h (-1 : Int32) M46 hG37 F47 (by omega) p_44 j_62 j_63 j_64 j_65 (by omega) (by omega)
      · refine to_c (pc := 34) rw_173_34 (x := (1 : Int32)) rfl rfl (to_go (pc := 35) rw_173_35 (s_v (pc := 39) rw_173_39 (dp0 hd (by decide)) (ls0 := [.ref 77, .int (1 : Int32)]) rfl (Nat.le_of_ble_eq_true rfl) (Nat.le_of_ble_eq_true rfl) rfl (to_rc rfl rfl rfl (g_o hG rfl)) rfl ?_))
        have k_68 : (1 : Int32).toInt = 1 := rfl
        refine C_172 hX (dp1 hd (by decide)) hG (by omega) (by omega) (by omega) g2 g7 (x := (1 : Int32)) (fun r69 M80 hG71 F70 p_72 p_73 p_74 p_75 p_76 p_77 p_78 p_79 => ?_)
        have F81 := FR.c F0 F70 tg_82
        have b_82 := g_b hG71 (a := 77) (i := 7) (lo := 0) (hi := 500) rfl rfl
        have c_83 : M80.2.1 77 6 = (N.2.1 77 6) := (F_n F70 (show ¬ (77 = 77 ∧ (6 = 4 ∨ 6 = 5 ∨ 7 ≤ 6 ∧ 6 ≤ 10 ∨ 14 ≤ 6 ∧ 6 ≤ 16 ∨ 6 = 25) ∨ 80 ≤ 77 ∧ 77 ≤ 84 ∧ 8 ≤ 6 ∨ 85 ≤ 77 ∧ 77 ≤ 87 ∧ 12 ≤ 6) by decide) rfl)
        have t_84 : (M80.2.1 77 6).toInt = (N.2.1 77 6).toInt := congrArg Int32.toInt c_83
        have b_85 := g_b hG71 (a := 77) (i := 8) (lo := 0) (hi := 5) rfl rfl
        refine b_ine (pc := 42) rw_173_42 (A := r69.toInt) rfl (fun h86 => ?_) (fun h86 => ?_)
        · refine s_inc (pc := 47) rw_173_47 (ls2 := fun v => [.ref 77, u1, .int v]) rfl rfl (fun _ => rfl) (A := x2.toInt) (B := 1) rfl rfl (by omega) (fun v87 e88 => to_go (pc := 50) rw_173_50 ?_)
          have j_89 := (WC_f (tg_234 F70) g3)
          have j_90 := (NJ_f (tg_235 F70) g4)
          have j_91 := (PS_f (tg_236 F70) g5)
          have j_92 := (KQ_f (tg_237 F70) g6)
          have c_93 : M80.2.1 77 1 = (N.2.1 77 1) := (F_n F70 (show ¬ (77 = 77 ∧ (1 = 4 ∨ 1 = 5 ∨ 7 ≤ 1 ∧ 1 ≤ 10 ∨ 14 ≤ 1 ∧ 1 ≤ 16 ∨ 1 = 25) ∨ 80 ≤ 77 ∧ 77 ≤ 84 ∧ 8 ≤ 1 ∨ 85 ≤ 77 ∧ 77 ≤ 87 ∧ 12 ≤ 1) by decide) rfl)
          have t_94 : (M80.2.1 77 1).toInt = (N.2.1 77 1).toInt := congrArg Int32.toInt c_93
          exact ih M80 (u1) v87 hG71 F81 (by omega) p_78 j_89 j_90 j_91 j_92 p_79 (by omega) (by omega) (by omega) (by omega)
        · refine to_c (pc := 45) rw_173_45 (x := (-1 : Int32)) rfl rfl (to_r0 (pc := 46) rw_173_46 ?_)
          have k_95 : (-1 : Int32).toInt = -1 := rfl
          have j_96 := (WC_f (tg_234 F70) g3)
          have j_97 := (NJ_f (tg_235 F70) g4)
          have j_98 := (PS_f (tg_236 F70) g5)
          have j_99 := (KQ_f (tg_237 F70) g6)
          have c_100 : M80.2.1 77 1 = (N.2.1 77 1) := (F_n F70 (show ¬ (77 = 77 ∧ (1 = 4 ∨ 1 = 5 ∨ 7 ≤ 1 ∧ 1 ≤ 10 ∨ 14 ≤ 1 ∧ 1 ≤ 16 ∨ 1 = 25) ∨ 80 ≤ 77 ∧ 77 ≤ 84 ∧ 8 ≤ 1 ∨ 85 ≤ 77 ∧ 77 ≤ 87 ∧ 12 ≤ 1) by decide) rfl)
          have t_101 : (M80.2.1 77 1).toInt = (N.2.1 77 1).toInt := congrArg Int32.toInt c_100
          exact h (-1 : Int32) M80 hG71 F81 (by omega) p_78 j_96 j_97 j_98 j_99 (by omega) (by omega)
set_option maxRecDepth 4000 in
set_option maxHeartbeats 0 in
theorem C_173 {X : mm_X} {d : Nat} {M : mm_M} {Q : Option Value → mm_M → Prop} {n : Int32} (hX : g_X X) (hd : 5 ≤ d) (hG : g_G M) (q1 : (M.2.1 77 7).toInt ≤ (M.2.1 77 6).toInt) (q2 : FA M) (q3 : WC M) (q4 : NJ M) (q5 : PS M) (q6 : KQ M) (h : ∀ (r : Int32) (M1 : mm_M), g_G M1 → FR md_P M M1 → ((M1.2.1 77 7).toInt ≤ (M1.2.1 77 6).toInt) → FA M1 → WC M1 → NJ M1 → PS M1 → KQ M1 → (n.toInt < 0 ∨ (M.2.1 77 1).toInt < n.toInt → (M1.2.1 77 1).toInt = (M.2.1 77 1).toInt) → (0 ≤ n.toInt ∧ n.toInt ≤ (M.2.1 77 1).toInt → (M1.2.1 77 1).toInt = 0) → Q (some (.int r)) M1) : mm_T X d 172 0 [.ref 77, .int n, .null] [] M Q := by
  have F0 : FR md_P M M := FR.rf
  have b_102 := g_b hG (a := 77) (i := 7) (lo := 0) (hi := 500) rfl rfl
  have b_103 := g_b hG (a := 77) (i := 6) (lo := 0) (hi := 500) rfl rfl
  refine to_an (pc := 0) rw_173_0 rfl (to_c (pc := 1) rw_173_1 (x := (0 : Int32)) rfl rfl (s_pI (pc := 2) rw_173_2 hG rfl (fun M105 W104 => ?_)))
  have hG106 := g_wf hG W104 rfl rfl (by decide)
  have F107 := FR.w F0 W104 (show 77 = 77 ∨ 79 < 77 ∧ 77 ≤ 87 ∨ 77 = 100 by decide)
  refine to_an (pc := 5) rw_173_5 rfl (to_in (pc := 6) rw_173_6 rfl (s_v (pc := 7) rw_173_7 (dp0 hd (by decide)) (ls0 := [.ref 77, .int n]) rfl (Nat.le_of_ble_eq_true rfl) (Nat.le_of_ble_eq_true rfl) rfl (to_rc rfl rfl rfl (g_o hG106 rfl)) rfl ?_))
  have c_108 : M105.2.1 77 1 = (M.2.1 77 1) := (W_n W104 (by decide) rfl)
  have b_109 := g_b hG (a := 77) (i := 1) (lo := 0) (hi := 500) rfl rfl
  have t_110 : (M105.2.1 77 1).toInt = (M.2.1 77 1).toInt := congrArg Int32.toInt c_108
  have c_111 : M105.2.1 77 7 = (M.2.1 77 7) := (W_n W104 (by decide) rfl)
  have t_112 : (M105.2.1 77 7).toInt = (M.2.1 77 7).toInt := congrArg Int32.toInt c_111
  have c_113 : M105.2.1 77 6 = (M.2.1 77 6) := (W_n W104 (by decide) rfl)
  have t_114 : (M105.2.1 77 6).toInt = (M.2.1 77 6).toInt := congrArg Int32.toInt c_113
  refine C_163 hX (dp1 hd (by decide)) hG106 (by omega) (n := n) (fun r115 M123 hG117 F116 p_118 p_119 p_120 p_121 p_122 => ?_)
  have F124 := FR.c F107 F116 tg_83
  have b_125 := g_b hG117 (a := 77) (i := 7) (lo := 0) (hi := 500) rfl rfl
  have b_126 := g_b hG117 (a := 77) (i := 6) (lo := 0) (hi := 500) rfl rfl
  have b_127 := g_b hG117 (a := 77) (i := 1) (lo := 0) (hi := 500) rfl rfl
  refine b_ine (pc := 10) rw_173_10 (A := r115.toInt) rfl (fun h128 => ?_) (fun h128 => ?_)
  · refine to_an (pc := 16) rw_173_16 rfl (s_v (pc := 17) rw_173_17 (dp0 hd (by decide)) (ls0 := [.ref 77]) rfl (Nat.le_of_ble_eq_true rfl) (Nat.le_of_ble_eq_true rfl) rfl (to_rc rfl rfl rfl (g_o hG117 rfl)) rfl (C_164 hX (dp1 hd (by decide)) hG117  (fun M134 hG130 F129 p_131 p_132 p_133 => ?_)))
    have F135 := FR.c F124 F129 tg_84
    have b_136 := g_b hG130 (a := 77) (i := 16) (lo := 0) (hi := 12) rfl rfl
    have b_137 := g_b hG130 (a := 77) (i := 15) (lo := 0) (hi := 8) rfl rfl
    have b_138 := g_b hG130 (a := 77) (i := 14) (lo := 10) (hi := 60) rfl rfl
    have j_139 : WR M134 := WR_0 (by omega)
    refine to_c (pc := 20) rw_173_20 (x := (0 : Int32)) rfl rfl (to_isn (pc := 21) rw_173_21 (ls2 := [.ref 77, .int n, .int (0 : Int32)]) rfl rfl ?_)
    have k_140 : (0 : Int32).toInt = 0 := rfl
    have c_141 : M134.2.1 77 7 = (M123.2.1 77 7) := (F_n F129 (show ¬ (77 = 77 ∧ (14 ≤ 7 ∧ 7 ≤ 16 ∨ 7 = 25)) by decide) rfl)
    have t_142 : (M134.2.1 77 7).toInt = (M123.2.1 77 7).toInt := congrArg Int32.toInt c_141
    have c_143 : M134.2.1 77 6 = (M123.2.1 77 6) := (F_n F129 (show ¬ (77 = 77 ∧ (14 ≤ 6 ∧ 6 ≤ 16 ∨ 6 = 25)) by decide) rfl)
    have t_144 : (M134.2.1 77 6).toInt = (M123.2.1 77 6).toInt := congrArg Int32.toInt c_143
    have j_145 := (FA_f (tg_238 F129) (FA_f (tg_239 F116) (FA_f (fun a i z => W_n W104 (tg_94 a i z) rfl) q2)))
    have j_146 := (WC_f (tg_240 F129) (WC_f (tg_241 F116) (WC_f (fun a i z => W_n W104 (by /-r77,2-/ omega) rfl) q3)))
    have j_147 := (NJ_f (tg_242 F129) (NJ_f (tg_243 F116) (NJ_f (fun a i z => W_n W104 (by /-r77,2-/ omega) rfl) q4)))
    have j_148 := (PS_f (tg_244 F129) (PS_f (tg_245 F116) (PS_f (fun a i z => W_n W104 (tg_259 a i z) rfl) q5)))
    have j_149 := (KQ_f (tg_246 F129) (KQ_f (tg_247 F116) (KQ_f (fun a i z => W_n W104 (by /-r77,2-/ omega) rfl) q6)))
    have c_150 : M134.2.1 77 1 = (M123.2.1 77 1) := (F_n F129 (show ¬ (77 = 77 ∧ (14 ≤ 1 ∧ 1 ≤ 16 ∨ 1 = 25)) by decide) rfl)
    have t_151 : (M134.2.1 77 1).toInt = (M123.2.1 77 1).toInt := congrArg Int32.toInt c_150
    have c_152 : M134.2.1 77 8 = (M123.2.1 77 8) := (F_n F129 (show ¬ (77 = 77 ∧ (14 ≤ 8 ∧ 8 ≤ 16 ∨ 8 = 25)) by decide) rfl)
    have b_153 := g_b hG117 (a := 77) (i := 8) (lo := 0) (hi := 5) rfl rfl
    have t_154 : (M134.2.1 77 8).toInt = (M123.2.1 77 8).toInt := congrArg Int32.toInt c_152
    exact (T_173_0 (n := n) hX hd q1 q2 q3 q4 q5 q6 h ((6 * (500 - (M134.2.1 77 7).toInt) + (M134.2.1 77 8).toInt).toNat + 1)) M134 (.int n) (0 : Int32) hG130 F135 (by omega) j_145 j_146 j_147 j_148 j_149 j_139 (by omega) (by omega) (by omega) (by omega)
  · refine to_c (pc := 13) rw_173_13 (x := (-2 : Int32)) rfl rfl (to_r0 (pc := 15) rw_173_15 ?_)
    have k_155 : (-2 : Int32).toInt = -2 := rfl
    have j_156 := (FA_f (tg_239 F116) (FA_f (fun a i z => W_n W104 (tg_94 a i z) rfl) q2))
    have j_157 := (WC_f (tg_241 F116) (WC_f (fun a i z => W_n W104 (by /-r77,2-/ omega) rfl) q3))
    have j_158 := (NJ_f (tg_243 F116) (NJ_f (fun a i z => W_n W104 (by /-r77,2-/ omega) rfl) q4))
    have j_159 := (PS_f (tg_245 F116) (PS_f (fun a i z => W_n W104 (tg_259 a i z) rfl) q5))
    have j_160 := (KQ_f (tg_247 F116) (KQ_f (fun a i z => W_n W104 (by /-r77,2-/ omega) rfl) q6))
    exact h (-2 : Int32) M123 hG117 F124 (by omega) j_156 j_157 j_158 j_159 j_160 (by omega) (by omega)
end
section
theorem tg_260 {M M1 : mm_M} (F : FR (fun a i : Nat => 94 ≤ a ∧ a ≤ 98) M M1) : ∀ a i : Nat, NJ_r a i → M1.2.1 a i = M.2.1 a i := fun a i z => F_n F (show ¬ (94 ≤ a ∧ a ≤ 98) by omega) rfl
theorem tg_261 : ∀ a i : Nat, (a < 0) → (94 ≤ a ∧ a ≤ 98) := fun a i z => by omega
theorem tg_262 : ∀ a i : Nat, (94 ≤ a ∧ a ≤ 98) → (94 ≤ a ∧ a ≤ 98) := fun a i z => by omega
theorem tg_263 : ∀ a i : Nat, (94 ≤ a ∧ a ≤ 98) → (a = 77 ∧ i = 2 ∨ 94 ≤ a ∧ a ≤ 98) := fun a i z => by omega
theorem tg_264 : ∀ a i : Nat, (a < 0) → (a = 77 ∧ i = 2 ∨ 94 ≤ a ∧ a ≤ 98) := fun a i z => by omega
set_option maxRecDepth 4000 in
set_option maxHeartbeats 0 in
theorem T_151_0 {X : mm_X} {d : Nat} {M : mm_M} {Q : Option Value → mm_M → Prop} {x : Int64} (hX : g_X X) (hd : 1 ≤ d) (h : ∀ (r : Int32) (M1 : mm_M), g_G M1 → FR md_0 M M1 → (0 ≤ r.toInt) → (r.toInt ≤ 62) → Q (some (.int r)) M1) : ∀ nn9 : Nat, (∀ (N : mm_M) (x2 : Int32) (x3 : Int32), g_G N → FR md_0 M N → (0 ≤ x3.toInt) → (x3.toInt ≤ 62) → (0 ≤ x2.toInt) → (x2.toInt ≤ 62) → (x2.toInt ≤ x3.toInt) → 62 - x3.toInt < (nn9 : Int) → mm_T X d 150 4 [.long x, .null, .int x2, .int x3] [] N Q) := by
  intro nn9
  induction nn9 with
  | zero =>
    intro N x2 x3 hG F0 g1 g2 g3 g4 g5 hm
    exfalso; omega
  | succ nn9 ih =>
    intro N x2 x3 hG F0 g1 g2 g3 g4 g5 hm
    refine to_in (pc := 4) rw_151_4 rfl (to_c (pc := 5) rw_151_5 (x := (62 : Int32)) rfl rfl (b_cge (pc := 7) rw_151_7 (A := x3.toInt) (B := 62) rfl rfl (fun h1 => ?_) (fun h1 => ?_)))
    · refine to_in (pc := 32) rw_151_32 rfl (to_r0 (pc := 33) rw_151_33 ?_)
      exact h x2 N hG F0 (by omega) (by omega)
    · refine to_in (pc := 10) rw_151_10 rfl (to_ln (pc := 11) rw_151_11 rfl rfl rfl (to_in (pc := 12) rw_151_12 rfl (s_s (pc := 13) rw_151_13 (dp0 hd (by decide)) (ls0 := [.long x, .null, .int x3]) rfl (Nat.le_of_ble_eq_true rfl) (Nat.le_of_ble_eq_true rfl) rfl (to_rcs rfl rfl) rfl (to_ln (pc := 0) rw_150_0 rfl rfl rfl (to_in (pc := 1) rw_150_1 rfl (s_anyS (pc := 2) rw_150_2 (fun _ _ => rfl) (fun l2 => s_cl (pc := 3) rw_150_3 rfl (fun l3 => s_anyL (pc := 4) rw_150_4 (fun _ _ => rfl) (fun l4 => s_cl (pc := 5) rw_150_5 rfl (fun l5 => s_lcmp (pc := 6) rw_150_6 (fun v6 => b_ine (pc := 7) rw_150_7 (A := v6.toInt) rfl (fun h7 => ?_) (fun h7 => ?_))))))))))))
      · refine to_c (pc := 14) rw_150_14 (x := (0 : Int32)) rfl rfl (s_r1 (pc := 15) rw_150_15 (A := 0) rfl (by decide) (b_ieq_t (pc := 16) rw_151_16 (A := 0) rfl (by decide) (to_c (pc := 23) rw_151_23 (x := (0 : Int32)) rfl rfl (s_add (pc := 24) rw_151_24 (A := x2.toInt) (B := 0) rfl rfl (by omega) (fun v8 e9 => to_isn (pc := 25) rw_151_25 (ls2 := [.long x, .null, .int v8, .int x3]) rfl rfl (s_inc (pc := 26) rw_151_26 (ls2 := fun v => [.long x, .null, .int v8, .int v]) rfl rfl (fun _ => rfl) (A := x3.toInt) (B := 1) rfl rfl (by omega) (fun v10 e11 => to_go (pc := 29) rw_151_29 ?_)))))))
        exact ih N v8 v10 hG F0 (by omega) (by omega) (by omega) (by omega) (by omega) (by omega)
      · refine to_c (pc := 10) rw_150_10 (x := (1 : Int32)) rfl rfl (to_go (pc := 11) rw_150_11 (s_r1 (pc := 15) rw_150_15 (A := 1) rfl (by decide) (b_ieq_f (pc := 16) rw_151_16 (A := 1) rfl (by decide) (to_c (pc := 19) rw_151_19 (x := (1 : Int32)) rfl rfl (to_go (pc := 20) rw_151_20 (s_add (pc := 24) rw_151_24 (A := x2.toInt) (B := 1) rfl rfl (by omega) (fun v12 e13 => to_isn (pc := 25) rw_151_25 (ls2 := [.long x, .null, .int v12, .int x3]) rfl rfl (s_inc (pc := 26) rw_151_26 (ls2 := fun v => [.long x, .null, .int v12, .int v]) rfl rfl (fun _ => rfl) (A := x3.toInt) (B := 1) rfl rfl (by omega) (fun v14 e15 => to_go (pc := 29) rw_151_29 ?_)))))))))
        exact ih N v12 v14 hG F0 (by omega) (by omega) (by omega) (by omega) (by omega) (by omega)
set_option maxRecDepth 4000 in
set_option maxHeartbeats 0 in
theorem C_151 {X : mm_X} {d : Nat} {M : mm_M} {Q : Option Value → mm_M → Prop} {x : Int64} (hX : g_X X) (hd : 1 ≤ d) (hG : g_G M) (h : ∀ (r : Int32) (M1 : mm_M), g_G M1 → FR md_0 M M1 → (0 ≤ r.toInt) → (r.toInt ≤ 62) → Q (some (.int r)) M1) : mm_T X d 150 0 [.long x, .null, .null, .null] [] M Q := by
  have F0 : FR md_0 M M := FR.rf
  refine to_c (pc := 0) rw_151_0 (x := (0 : Int32)) rfl rfl (to_isn (pc := 1) rw_151_1 (ls2 := [.long x, .null, .int (0 : Int32), .null]) rfl rfl (to_c (pc := 2) rw_151_2 (x := (0 : Int32)) rfl rfl (to_isn (pc := 3) rw_151_3 (ls2 := [.long x, .null, .int (0 : Int32), .int (0 : Int32)]) rfl rfl ?_)))
  have k_16 : (0 : Int32).toInt = 0 := rfl
  exact (T_151_0 (x := x) hX hd  h ((62 - (0 : Int32).toInt).toNat + 1)) M (0 : Int32) (0 : Int32) hG F0 (by omega) (by omega) (by omega) (by omega) (by omega) (by omega)
set_option maxRecDepth 4000 in
set_option maxHeartbeats 0 in
theorem C_174 {X : mm_X} {d : Nat} {M : mm_M} {Q : Option Value → mm_M → Prop} {w : Int32} (hX : g_X X) (hd : 0 ≤ d) (hG : g_G M) (h : ∀ (r : Int32) (M1 : mm_M), g_G M1 → FR md_2 M M1 → Q (some (.int r)) M1) : mm_T X d 173 0 [.ref 77, .int w] [] M Q := by
  have F0 : FR md_2 M M := FR.rf
  refine to_an (pc := 0) rw_174_0 rfl (to_c (pc := 1) rw_174_1 (x := (0 : Int32)) rfl rfl (s_pI (pc := 2) rw_174_2 hG rfl (fun M2 W1 => ?_)))
  have hG3 := g_wf hG W1 rfl rfl (by decide)
  have F4 := FR.w F0 W1 (show 77 = 77 ∧ 2 = 2 by decide)
  refine to_in (pc := 5) rw_174_5 rfl (b_ine (pc := 6) rw_174_6 (A := w.toInt) rfl (fun h5 => ?_) (fun h5 => ?_))
  · refine to_in (pc := 16) rw_174_16 rfl (to_c (pc := 17) rw_174_17 (x := (1 : Int32)) rfl rfl (b_cne (pc := 18) rw_174_18 (A := w.toInt) (B := 1) rfl rfl (fun h6 => ?_) (fun h6 => ?_)))
    · refine to_c (pc := 28) rw_174_28 (x := (-1 : Int32)) rfl rfl (to_r0 (pc := 29) rw_174_29 ?_)
      have k_7 : (-1 : Int32).toInt = -1 := rfl
      exact h (-1 : Int32) M2 hG3 F4 
    · refine to_an (pc := 21) rw_174_21 rfl ?_
      have c_8 : M2.2.1 77 5 = (M.2.1 77 5) := (W_n W1 (by decide) rfl)
      refine tt_gI (pc := 22) rw_174_22 (g_o hG3 rfl) (v := (M.2.1 77 5)) c_8 (to_go (pc := 25) rw_174_25 (to_r0 (pc := 29) rw_174_29 ?_))
      exact h (M.2.1 77 5) M2 hG3 F4 
  · refine to_an (pc := 9) rw_174_9 rfl ?_
    have c_9 : M2.2.1 77 4 = (M.2.1 77 4) := (W_n W1 (by decide) rfl)
    refine tt_gI (pc := 10) rw_174_10 (g_o hG3 rfl) (v := (M.2.1 77 4)) c_9 (to_go (pc := 13) rw_174_13 (to_r0 (pc := 29) rw_174_29 ?_))
    exact h (M.2.1 77 4) M2 hG3 F4 
set_option maxRecDepth 4000 in
set_option maxHeartbeats 0 in
theorem T_175_0 {X : mm_X} {d : Nat} {M : mm_M} {Q : Option Value → mm_M → Prop} {n : Int32} (hX : g_X X) (hd : 0 ≤ d) (h : ∀ (r : Int32) (M1 : mm_M), g_G M1 → FR md_0 M M1 → (-1 ≤ r.toInt) → (r.toInt ≤ 7) → (r.toInt < (M.2.1 77 12).toInt) → Q (some (.int r)) M1) : ∀ nn9 : Nat, (∀ (N : mm_M) (x2 : Int32), g_G N → FR md_0 M N → (0 ≤ x2.toInt) → (x2.toInt ≤ 8) → ((N.2.1 77 12).toInt = (M.2.1 77 12).toInt) → 8 - x2.toInt < (nn9 : Int) → mm_T X d 174 2 [.ref 77, .int n, .int x2] [] N Q) := by
  intro nn9
  induction nn9 with
  | zero =>
    intro N x2 hG F0 g1 g2 g3 hm
    have b_1 := g_b hG (a := 77) (i := 12) (lo := 0) (hi := 8) rfl rfl
    exfalso; omega
  | succ nn9 ih =>
    intro N x2 hG F0 g1 g2 g3 hm
    have b_2 := g_b hG (a := 77) (i := 12) (lo := 0) (hi := 8) rfl rfl
    refine to_in (pc := 2) rw_175_2 rfl (to_an (pc := 3) rw_175_3 rfl (tt_gI (pc := 4) rw_175_4 (g_o hG rfl) (v := (N.2.1 77 12)) rfl (b_cge (pc := 7) rw_175_7 (A := x2.toInt) (B := (N.2.1 77 12).toInt) rfl rfl (fun h3 => ?_) (fun h3 => ?_))))
    · refine to_c (pc := 28) rw_175_28 (x := (-1 : Int32)) rfl rfl (to_r0 (pc := 29) rw_175_29 ?_)
      have k_4 : (-1 : Int32).toInt = -1 := rfl
      exact h (-1 : Int32) N hG F0 (by omega) (by omega) (by omega)
    · refine to_an (pc := 10) rw_175_10 rfl (s_gR (pc := 11) rw_175_11 hG rfl (v := 80) rfl (to_in (pc := 14) rw_175_14 rfl (s_ial (pc := 15) rw_175_15 hG rfl (n := 16) rfl rfl (A := x2.toInt) rfl (by omega) (by omega) (lo := -2147483648) (hi := 2147483647) rfl rfl (fun v5 w_6 _ _ => to_in (pc := 16) rw_175_16 rfl (b_cne (pc := 17) rw_175_17 (A := v5.toInt) (B := n.toInt) rfl rfl (fun h7 => ?_) (fun h7 => ?_))))))
      · refine s_inc (pc := 22) rw_175_22 (ls2 := fun v => [.ref 77, .int n, .int v]) rfl rfl (fun _ => rfl) (A := x2.toInt) (B := 1) rfl rfl (by omega) (fun v8 e9 => to_go (pc := 25) rw_175_25 ?_)
        exact ih N v8 hG F0 (by omega) (by omega) (by omega) (by omega)
      · refine to_in (pc := 20) rw_175_20 rfl (to_r0 (pc := 21) rw_175_21 ?_)
        exact h x2 N hG F0 (by omega) (by omega) (by omega)
set_option maxRecDepth 4000 in
set_option maxHeartbeats 0 in
theorem C_175 {X : mm_X} {d : Nat} {M : mm_M} {Q : Option Value → mm_M → Prop} {n : Int32} (hX : g_X X) (hd : 0 ≤ d) (hG : g_G M) (h : ∀ (r : Int32) (M1 : mm_M), g_G M1 → FR md_0 M M1 → (-1 ≤ r.toInt) → (r.toInt ≤ 7) → (r.toInt < (M.2.1 77 12).toInt) → Q (some (.int r)) M1) : mm_T X d 174 0 [.ref 77, .int n, .null] [] M Q := by
  have F0 : FR md_0 M M := FR.rf
  refine to_c (pc := 0) rw_175_0 (x := (0 : Int32)) rfl rfl (to_isn (pc := 1) rw_175_1 (ls2 := [.ref 77, .int n, .int (0 : Int32)]) rfl rfl ?_)
  have k_10 : (0 : Int32).toInt = 0 := rfl
  have b_11 := g_b hG (a := 77) (i := 12) (lo := 0) (hi := 8) rfl rfl
  exact (T_175_0 (n := n) hX hd  h ((8 - (0 : Int32).toInt).toNat + 1)) M (0 : Int32) hG F0 (by omega) (by omega) (by omega) (by omega)
set_option maxRecDepth 4000 in
set_option maxHeartbeats 0 in
theorem T_176_0 {X : mm_X} {d : Nat} {M : mm_M} {Q : Option Value → mm_M → Prop} {n : Int32} (hX : g_X X) (hd : 0 ≤ d) (h : ∀ (r : Int32) (M1 : mm_M), g_G M1 → FR md_0 M M1 → (-1 ≤ r.toInt) → (r.toInt ≤ 11) → (r.toInt < (M.2.1 77 13).toInt) → Q (some (.int r)) M1) : ∀ nn9 : Nat, (∀ (N : mm_M) (x2 : Int32), g_G N → FR md_0 M N → (0 ≤ x2.toInt) → (x2.toInt ≤ 12) → ((N.2.1 77 13).toInt = (M.2.1 77 13).toInt) → 12 - x2.toInt < (nn9 : Int) → mm_T X d 175 2 [.ref 77, .int n, .int x2] [] N Q) := by
  intro nn9
  induction nn9 with
  | zero =>
    intro N x2 hG F0 g1 g2 g3 hm
    have b_1 := g_b hG (a := 77) (i := 13) (lo := 0) (hi := 12) rfl rfl
    exfalso; omega
  | succ nn9 ih =>
    intro N x2 hG F0 g1 g2 g3 hm
    have b_2 := g_b hG (a := 77) (i := 13) (lo := 0) (hi := 12) rfl rfl
    refine to_in (pc := 2) rw_176_2 rfl (to_an (pc := 3) rw_176_3 rfl (tt_gI (pc := 4) rw_176_4 (g_o hG rfl) (v := (N.2.1 77 13)) rfl (b_cge (pc := 7) rw_176_7 (A := x2.toInt) (B := (N.2.1 77 13).toInt) rfl rfl (fun h3 => ?_) (fun h3 => ?_))))
    · refine to_c (pc := 28) rw_176_28 (x := (-1 : Int32)) rfl rfl (to_r0 (pc := 29) rw_176_29 ?_)
      have k_4 : (-1 : Int32).toInt = -1 := rfl
      exact h (-1 : Int32) N hG F0 (by omega) (by omega) (by omega)
    · refine to_an (pc := 10) rw_176_10 rfl (s_gR (pc := 11) rw_176_11 hG rfl (v := 85) rfl (to_in (pc := 14) rw_176_14 rfl (s_ial (pc := 15) rw_176_15 hG rfl (n := 24) rfl rfl (A := x2.toInt) rfl (by omega) (by omega) (lo := -2147483648) (hi := 2147483647) rfl rfl (fun v5 w_6 _ _ => to_in (pc := 16) rw_176_16 rfl (b_cne (pc := 17) rw_176_17 (A := v5.toInt) (B := n.toInt) rfl rfl (fun h7 => ?_) (fun h7 => ?_))))))
      · refine s_inc (pc := 22) rw_176_22 (ls2 := fun v => [.ref 77, .int n, .int v]) rfl rfl (fun _ => rfl) (A := x2.toInt) (B := 1) rfl rfl (by omega) (fun v8 e9 => to_go (pc := 25) rw_176_25 ?_)
        exact ih N v8 hG F0 (by omega) (by omega) (by omega) (by omega)
      · refine to_in (pc := 20) rw_176_20 rfl (to_r0 (pc := 21) rw_176_21 ?_)
        exact h x2 N hG F0 (by omega) (by omega) (by omega)
set_option maxRecDepth 4000 in
set_option maxHeartbeats 0 in
theorem C_176 {X : mm_X} {d : Nat} {M : mm_M} {Q : Option Value → mm_M → Prop} {n : Int32} (hX : g_X X) (hd : 0 ≤ d) (hG : g_G M) (h : ∀ (r : Int32) (M1 : mm_M), g_G M1 → FR md_0 M M1 → (-1 ≤ r.toInt) → (r.toInt ≤ 11) → (r.toInt < (M.2.1 77 13).toInt) → Q (some (.int r)) M1) : mm_T X d 175 0 [.ref 77, .int n, .null] [] M Q := by
  have F0 : FR md_0 M M := FR.rf
  refine to_c (pc := 0) rw_176_0 (x := (0 : Int32)) rfl rfl (to_isn (pc := 1) rw_176_1 (ls2 := [.ref 77, .int n, .int (0 : Int32)]) rfl rfl ?_)
  have k_10 : (0 : Int32).toInt = 0 := rfl
  have b_11 := g_b hG (a := 77) (i := 13) (lo := 0) (hi := 12) rfl rfl
  exact (T_176_0 (n := n) hX hd  h ((12 - (0 : Int32).toInt).toNat + 1)) M (0 : Int32) hG F0 (by omega) (by omega) (by omega) (by omega)
set_option maxRecDepth 4000 in
set_option maxHeartbeats 0 in
theorem C_177 {X : mm_X} {d : Nat} {M : mm_M} {Q : Option Value → mm_M → Prop} {w : Int32} {n : Int32} (hX : g_X X) (hd : 1 ≤ d) (hG : g_G M) (h : ∀ (r : Int32) (M1 : mm_M), g_G M1 → FR md_2 M M1 → Q (some (.int r)) M1) : mm_T X d 176 0 [.ref 77, .int w, .int n] [] M Q := by
  have F0 : FR md_2 M M := FR.rf
  refine to_an (pc := 0) rw_177_0 rfl (to_c (pc := 1) rw_177_1 (x := (0 : Int32)) rfl rfl (s_pI (pc := 2) rw_177_2 hG rfl (fun M2 W1 => ?_)))
  have hG3 := g_wf hG W1 rfl rfl (by decide)
  have F4 := FR.w F0 W1 (show 77 = 77 ∧ 2 = 2 by decide)
  refine to_in (pc := 5) rw_177_5 rfl (b_ine (pc := 6) rw_177_6 (A := w.toInt) rfl (fun h5 => ?_) (fun h5 => ?_))
  · refine to_in (pc := 17) rw_177_17 rfl (to_c (pc := 18) rw_177_18 (x := (1 : Int32)) rfl rfl (b_cne (pc := 19) rw_177_19 (A := w.toInt) (B := 1) rfl rfl (fun h6 => ?_) (fun h6 => ?_)))
    · refine to_c (pc := 30) rw_177_30 (x := (-1 : Int32)) rfl rfl (to_r0 (pc := 31) rw_177_31 ?_)
      have k_7 : (-1 : Int32).toInt = -1 := rfl
      exact h (-1 : Int32) M2 hG3 F4 
    · refine to_an (pc := 22) rw_177_22 rfl (to_in (pc := 23) rw_177_23 rfl (s_v (pc := 24) rw_177_24 (dp0 hd (by decide)) (ls0 := [.ref 77, .int n, .null]) rfl (Nat.le_of_ble_eq_true rfl) (Nat.le_of_ble_eq_true rfl) rfl (to_rc rfl rfl rfl (g_o hG3 rfl)) rfl ?_))
      have c_8 : M2.2.1 77 13 = (M.2.1 77 13) := (W_n W1 (by decide) rfl)
      have b_9 := g_b hG (a := 77) (i := 13) (lo := 0) (hi := 12) rfl rfl
      have t_10 : (M2.2.1 77 13).toInt = (M.2.1 77 13).toInt := congrArg Int32.toInt c_8
      refine C_176 hX (dp1 hd (by decide)) hG3 (n := n) (fun r11 M17 hG13 F12 p_14 p_15 p_16 => ?_)
      have F18 := FR.c F4 F12 tg_90
      refine to_go (pc := 27) rw_177_27 (to_r0 (pc := 31) rw_177_31 ?_)
      exact h r11 M17 hG13 F18 
  · refine to_an (pc := 9) rw_177_9 rfl (to_in (pc := 10) rw_177_10 rfl (s_v (pc := 11) rw_177_11 (dp0 hd (by decide)) (ls0 := [.ref 77, .int n, .null]) rfl (Nat.le_of_ble_eq_true rfl) (Nat.le_of_ble_eq_true rfl) rfl (to_rc rfl rfl rfl (g_o hG3 rfl)) rfl ?_))
    have c_19 : M2.2.1 77 12 = (M.2.1 77 12) := (W_n W1 (by decide) rfl)
    have b_20 := g_b hG (a := 77) (i := 12) (lo := 0) (hi := 8) rfl rfl
    have t_21 : (M2.2.1 77 12).toInt = (M.2.1 77 12).toInt := congrArg Int32.toInt c_19
    refine C_175 hX (dp1 hd (by decide)) hG3 (n := n) (fun r22 M28 hG24 F23 p_25 p_26 p_27 => ?_)
    have F29 := FR.c F4 F23 tg_90
    refine to_go (pc := 14) rw_177_14 (to_r0 (pc := 31) rw_177_31 ?_)
    exact h r22 M28 hG24 F29 
set_option maxRecDepth 4000 in
set_option maxHeartbeats 0 in
theorem C_182 {X : mm_X} {d : Nat} {M : mm_M} {Q : Option Value → mm_M → Prop} {f : Int32} {w : Int32} (hX : g_X X) (hd : 1 ≤ d) (hG : g_G M) (h : ∀ (r : Int32) (M1 : mm_M), g_G M1 → FR md_2 M M1 → Q (some (.int r)) M1) : mm_T X d 181 0 [.ref 77, .int f, .int w] [] M Q := by
  have F0 : FR md_2 M M := FR.rf
  refine to_an (pc := 0) rw_182_0 rfl (to_c (pc := 1) rw_182_1 (x := (0 : Int32)) rfl rfl (s_pI (pc := 2) rw_182_2 hG rfl (fun M2 W1 => ?_)))
  have hG3 := g_wf hG W1 rfl rfl (by decide)
  have F4 := FR.w F0 W1 (show 77 = 77 ∧ 2 = 2 by decide)
  refine to_an (pc := 5) rw_182_5 rfl (to_in (pc := 6) rw_182_6 rfl (s_v (pc := 7) rw_182_7 (dp0 hd (by decide)) (ls0 := [.ref 77, .int f]) rfl (Nat.le_of_ble_eq_true rfl) (Nat.le_of_ble_eq_true rfl) rfl (to_rc rfl rfl rfl (g_o hG3 rfl)) rfl (to_in (pc := 0) rw_178_0 rfl (b_ilt (pc := 1) rw_178_1 (A := f.toInt) rfl (fun h5 => ?_) (fun h5 => ?_)))))
  · refine to_c (pc := 16) rw_178_16 (x := (0 : Int32)) rfl rfl (s_r1 (pc := 17) rw_178_17 (A := 0) rfl (by decide) (b_ine_f (pc := 10) rw_182_10 (A := 0) rfl (by decide) (to_an (pc := 13) rw_182_13 rfl (to_c (pc := 14) rw_182_14 (x := (1 : Int32)) rfl rfl (s_v (pc := 15) rw_182_15 (dp0 hd (by decide)) (ls0 := [.ref 77, .int (1 : Int32)]) rfl (Nat.le_of_ble_eq_true rfl) (Nat.le_of_ble_eq_true rfl) rfl (to_rc rfl rfl rfl (g_o hG3 rfl)) rfl (to_an (pc := 0) rw_181_0 rfl (to_in (pc := 1) rw_181_1 rfl (s_pI (pc := 2) rw_181_2 hG3 rfl (fun M7 W6 => ?_)))))))))
    have hG8 := g_wf hG3 W6 rfl rfl (by decide)
    have F9 := FR.w F4 W6 (show 77 = 77 ∧ 2 = 2 by decide)
    refine to_c (pc := 5) rw_181_5 (x := (0 : Int32)) rfl rfl (to_r0 (pc := 6) rw_181_6 (to_r0 (pc := 18) rw_182_18 ?_))
    have k_10 : (0 : Int32).toInt = 0 := rfl
    exact h (0 : Int32) M7 hG8 F9 
  · refine to_in (pc := 4) rw_178_4 rfl (to_an (pc := 5) rw_178_5 rfl ?_)
    have c_11 : M2.2.1 77 12 = (M.2.1 77 12) := (W_n W1 (by decide) rfl)
    have b_12 := g_b hG (a := 77) (i := 12) (lo := 0) (hi := 8) rfl rfl
    refine tt_gI (pc := 6) rw_178_6 (g_o hG3 rfl) (v := (M.2.1 77 12)) c_11 (b_cge (pc := 9) rw_178_9 (A := f.toInt) (B := (M.2.1 77 12).toInt) rfl rfl (fun h13 => ?_) (fun h13 => ?_))
    · refine to_c (pc := 16) rw_178_16 (x := (0 : Int32)) rfl rfl (s_r1 (pc := 17) rw_178_17 (A := 0) rfl (by decide) (b_ine_f (pc := 10) rw_182_10 (A := 0) rfl (by decide) (to_an (pc := 13) rw_182_13 rfl (to_c (pc := 14) rw_182_14 (x := (1 : Int32)) rfl rfl (s_v (pc := 15) rw_182_15 (dp0 hd (by decide)) (ls0 := [.ref 77, .int (1 : Int32)]) rfl (Nat.le_of_ble_eq_true rfl) (Nat.le_of_ble_eq_true rfl) rfl (to_rc rfl rfl rfl (g_o hG3 rfl)) rfl (to_an (pc := 0) rw_181_0 rfl (to_in (pc := 1) rw_181_1 rfl (s_pI (pc := 2) rw_181_2 hG3 rfl (fun M15 W14 => ?_)))))))))
      have hG16 := g_wf hG3 W14 rfl rfl (by decide)
      have F17 := FR.w F4 W14 (show 77 = 77 ∧ 2 = 2 by decide)
      refine to_c (pc := 5) rw_181_5 (x := (0 : Int32)) rfl rfl (to_r0 (pc := 6) rw_181_6 (to_r0 (pc := 18) rw_182_18 ?_))
      have k_18 : (0 : Int32).toInt = 0 := rfl
      exact h (0 : Int32) M15 hG16 F17 
    · refine to_c (pc := 12) rw_178_12 (x := (1 : Int32)) rfl rfl (to_go (pc := 13) rw_178_13 (s_r1 (pc := 17) rw_178_17 (A := 1) rfl (by decide) (b_ine_t (pc := 10) rw_182_10 (A := 1) rfl (by decide) (to_in (pc := 19) rw_182_19 rfl ?_))))
      rcases (show w.toInt = 0 ∨ w.toInt = 1 ∨ w.toInt = 2 ∨ w.toInt = 3 ∨ (w.toInt < 0 ∨ 3 < w.toInt) by omega) with h19 | h19 | h19 | h19 | h19
      · refine s_sw (pc := 20) rw_182_20 (A := w.toInt) (k := 0) (t := 52) rfl h19 (by decide) rfl (to_an (pc := 52) rw_182_52 rfl (s_gR (pc := 53) rw_182_53 hG3 rfl (v := 81) rfl (to_in (pc := 56) rw_182_56 rfl (s_ial (pc := 57) rw_182_57 hG3 rfl (n := 16) rfl rfl (A := f.toInt) rfl (by omega) (by omega) (lo := 0) (hi := 3) rfl rfl (fun v20 w_21 _ _ => to_r0 (pc := 58) rw_182_58 ?_)))))
        exact h v20 M2 hG3 F4 
      · refine s_sw (pc := 20) rw_182_20 (A := w.toInt) (k := 1) (t := 59) rfl h19 (by decide) rfl (to_an (pc := 59) rw_182_59 rfl (s_gR (pc := 60) rw_182_60 hG3 rfl (v := 82) rfl (to_in (pc := 63) rw_182_63 rfl (s_ial (pc := 64) rw_182_64 hG3 rfl (n := 16) rfl rfl (A := f.toInt) rfl (by omega) (by omega) (lo := 0) (hi := 59) rfl rfl (fun v22 w_23 _ _ => to_r0 (pc := 65) rw_182_65 ?_)))))
        exact h v22 M2 hG3 F4 
      · refine s_sw (pc := 20) rw_182_20 (A := w.toInt) (k := 2) (t := 66) rfl h19 (by decide) rfl (to_an (pc := 66) rw_182_66 rfl (s_gR (pc := 67) rw_182_67 hG3 rfl (v := 83) rfl (to_in (pc := 70) rw_182_70 rfl (s_ial (pc := 71) rw_182_71 hG3 rfl (n := 16) rfl rfl (A := f.toInt) rfl (by omega) (by omega) (lo := 0) (hi := 63) rfl rfl (fun v24 w_25 _ _ => to_r0 (pc := 72) rw_182_72 ?_)))))
        exact h v24 M2 hG3 F4 
      · refine s_sw (pc := 20) rw_182_20 (A := w.toInt) (k := 3) (t := 73) rfl h19 (by decide) rfl (to_an (pc := 73) rw_182_73 rfl (s_gR (pc := 74) rw_182_74 hG3 rfl (v := 84) rfl (to_in (pc := 77) rw_182_77 rfl (s_ial (pc := 78) rw_182_78 hG3 rfl (n := 16) rfl rfl (A := f.toInt) rfl (by omega) (by omega) (lo := 0) (hi := 24) rfl rfl (fun v26 w_27 _ _ => to_r0 (pc := 79) rw_182_79 ?_)))))
        exact h v26 M2 hG3 F4 
      · refine s_swd (pc := 20) rw_182_20 (A := w.toInt) rfl h19 (to_an (pc := 80) rw_182_80 rfl (to_c (pc := 81) rw_182_81 (x := (2 : Int32)) rfl rfl (s_v (pc := 82) rw_182_82 (dp0 hd (by decide)) (ls0 := [.ref 77, .int (2 : Int32)]) rfl (Nat.le_of_ble_eq_true rfl) (Nat.le_of_ble_eq_true rfl) rfl (to_rc rfl rfl rfl (g_o hG3 rfl)) rfl (to_an (pc := 0) rw_181_0 rfl (to_in (pc := 1) rw_181_1 rfl (s_pI (pc := 2) rw_181_2 hG3 rfl (fun M29 W28 => ?_)))))))
        have hG30 := g_wf hG3 W28 rfl rfl (by decide)
        have F31 := FR.w F4 W28 (show 77 = 77 ∧ 2 = 2 by decide)
        refine to_c (pc := 5) rw_181_5 (x := (0 : Int32)) rfl rfl (to_r0 (pc := 6) rw_181_6 (to_r0 (pc := 85) rw_182_85 ?_))
        have k_32 : (0 : Int32).toInt = 0 := rfl
        exact h (0 : Int32) M29 hG30 F31 
set_option maxRecDepth 4000 in
set_option maxHeartbeats 0 in
theorem C_183 {X : mm_X} {d : Nat} {M : mm_M} {Q : Option Value → mm_M → Prop} {f : Int32} {v : Int32} (hX : g_X X) (hd : 0 ≤ d) (hG : g_G M) (q1 : 0 ≤ f.toInt) (q2 : f.toInt ≤ 15) (q3 : 0 ≤ v.toInt) (q4 : (M.2.1 81 (f.toInt).toNat).toInt = 0 ∨ v.toInt ≤ 9) (h : ∀ (r : Int64) (M1 : mm_M), g_G M1 → FR md_0 M M1 → Q (some (.long r)) M1) : mm_T X d 182 0 [.ref 77, .int f, .int v] [] M Q := by
  have F0 : FR md_0 M M := FR.rf
  refine to_an (pc := 0) rw_183_0 rfl (s_gR (pc := 1) rw_183_1 hG rfl (v := 81) rfl (to_in (pc := 4) rw_183_4 rfl (s_ial (pc := 5) rw_183_5 hG rfl (n := 16) rfl rfl (A := f.toInt) rfl (by omega) (by omega) (lo := 0) (hi := 3) rfl rfl (fun v1 w_2 _ _ => ?_))))
  have t_3 := congrArg Int32.toInt w_2
  refine b_ine (pc := 6) rw_183_6 (A := v1.toInt) rfl (fun h4 => ?_) (fun h4 => ?_)
  · refine to_an (pc := 15) rw_183_15 rfl (s_gR (pc := 16) rw_183_16 hG rfl (v := 81) rfl (to_in (pc := 19) rw_183_19 rfl (s_ialk (pc := 20) rw_183_20 hG rfl (n := 16) rfl rfl (A := f.toInt) rfl (by omega) (by omega) (v := v1) w_2 (to_c (pc := 21) rw_183_21 (x := (1 : Int32)) rfl rfl (b_cne (pc := 22) rw_183_22 (A := v1.toInt) (B := 1) rfl rfl (fun h7 => ?_) (fun h7 => ?_))))))
    · refine to_an (pc := 35) rw_183_35 rfl (s_gR (pc := 36) rw_183_36 hG rfl (v := 89) rfl (to_in (pc := 39) rw_183_39 rfl (s_ial (pc := 40) rw_183_40 hG rfl (n := 10) rfl rfl (A := v.toInt) rfl (by omega) (by omega) (lo := -2147483648) (hi := 2147483647) rfl rfl (fun v8 w_9 _ _ => s_i2l (pc := 41) rw_183_41 (fun l10 e11 => to_an (pc := 42) rw_183_42 rfl (s_gR (pc := 43) rw_183_43 hG rfl (v := 82) rfl (to_in (pc := 46) rw_183_46 rfl (s_ial (pc := 47) rw_183_47 hG rfl (n := 16) rfl rfl (A := f.toInt) rfl (by omega) (by omega) (lo := 0) (hi := 59) rfl rfl (fun v12 w_13 _ _ => s_anyS (pc := 48) rw_183_48 (fun _ _ => rfl) (fun l14 => to_rl (pc := 49) rw_183_49 ?_))))))))))
      exact h l14 M hG F0 
    · refine to_an (pc := 25) rw_183_25 rfl (s_gR (pc := 26) rw_183_26 hG rfl (v := 88) rfl (to_in (pc := 29) rw_183_29 rfl (s_ial (pc := 30) rw_183_30 hG rfl (n := 10) rfl rfl (A := v.toInt) rfl (by omega) (by omega) (lo := -2147483648) (hi := 2147483647) rfl rfl (fun v15 w_16 _ _ => s_i2l (pc := 31) rw_183_31 (fun l17 e18 => to_go (pc := 32) rw_183_32 (to_an (pc := 42) rw_183_42 rfl (s_gR (pc := 43) rw_183_43 hG rfl (v := 82) rfl (to_in (pc := 46) rw_183_46 rfl (s_ial (pc := 47) rw_183_47 hG rfl (n := 16) rfl rfl (A := f.toInt) rfl (by omega) (by omega) (lo := 0) (hi := 59) rfl rfl (fun v19 w_20 _ _ => s_anyS (pc := 48) rw_183_48 (fun _ _ => rfl) (fun l21 => to_rl (pc := 49) rw_183_49 ?_)))))))))))
      exact h l21 M hG F0 
  · refine s_cl (pc := 9) rw_183_9 rfl (fun l22 => to_in (pc := 10) rw_183_10 rfl (s_anyS (pc := 11) rw_183_11 (fun _ _ => rfl) (fun l23 => to_go (pc := 12) rw_183_12 (to_an (pc := 42) rw_183_42 rfl (s_gR (pc := 43) rw_183_43 hG rfl (v := 82) rfl (to_in (pc := 46) rw_183_46 rfl (s_ial (pc := 47) rw_183_47 hG rfl (n := 16) rfl rfl (A := f.toInt) rfl (by omega) (by omega) (lo := 0) (hi := 59) rfl rfl (fun v24 w_25 _ _ => s_anyS (pc := 48) rw_183_48 (fun _ _ => rfl) (fun l26 => to_rl (pc := 49) rw_183_49 ?_)))))))))
    exact h l26 M hG F0 
set_option maxRecDepth 4000 in
set_option maxHeartbeats 0 in
theorem C_185 {X : mm_X} {d : Nat} {M : mm_M} {Q : Option Value → mm_M → Prop} {f : Int32} {v : Int32} (hX : g_X X) (hd : 3 ≤ d) (hG : g_G M) (q1 : FA M) (h : ∀ (r : Int64) (M1 : mm_M), g_G M1 → FR md_2 M M1 → Q (some (.long r)) M1) : mm_T X d 184 0 [.ref 77, .int f, .int v] [] M Q := by
  have F0 : FR md_2 M M := FR.rf
  refine to_an (pc := 0) rw_185_0 rfl (to_c (pc := 1) rw_185_1 (x := (0 : Int32)) rfl rfl (s_pI (pc := 2) rw_185_2 hG rfl (fun M2 W1 => ?_)))
  have hG3 := g_wf hG W1 rfl rfl (by decide)
  have F4 := FR.w F0 W1 (show 77 = 77 ∧ 2 = 2 by decide)
  refine to_an (pc := 5) rw_185_5 rfl (to_in (pc := 6) rw_185_6 rfl (to_in (pc := 7) rw_185_7 rfl (s_v (pc := 8) rw_185_8 (dp0 hd (by decide)) (ls0 := [.ref 77, .int f, .int v]) rfl (Nat.le_of_ble_eq_true rfl) (Nat.le_of_ble_eq_true rfl) rfl (to_rc rfl rfl rfl (g_o hG3 rfl)) rfl (to_an (pc := 0) rw_184_0 rfl (to_in (pc := 1) rw_184_1 rfl (s_v (pc := 2) rw_184_2 (dp1 hd (by decide)) (ls0 := [.ref 77, .int f]) rfl (Nat.le_of_ble_eq_true rfl) (Nat.le_of_ble_eq_true rfl) rfl (to_rc rfl rfl rfl (g_o hG3 rfl)) rfl (to_an (pc := 0) rw_179_0 rfl (to_in (pc := 1) rw_179_1 rfl (s_v (pc := 2) rw_179_2 (dp2 hd (by decide)) (ls0 := [.ref 77, .int f]) rfl (Nat.le_of_ble_eq_true rfl) (Nat.le_of_ble_eq_true rfl) rfl (to_rc rfl rfl rfl (g_o hG3 rfl)) rfl (to_in (pc := 0) rw_178_0 rfl (b_ilt (pc := 1) rw_178_1 (A := f.toInt) rfl (fun h5 => ?_) (fun h5 => ?_))))))))))))
  · refine to_c (pc := 16) rw_178_16 (x := (0 : Int32)) rfl rfl (s_r1 (pc := 17) rw_178_17 (A := 0) rfl (by decide) (b_ieq_t (pc := 5) rw_179_5 (A := 0) rfl (by decide) (to_c (pc := 22) rw_179_22 (x := (0 : Int32)) rfl rfl (s_r1 (pc := 23) rw_179_23 (A := 0) rfl (by decide) (b_ieq_t (pc := 5) rw_184_5 (A := 0) rfl (by decide) (to_c (pc := 26) rw_184_26 (x := (0 : Int32)) rfl rfl (s_r1 (pc := 27) rw_184_27 (A := 0) rfl (by decide) (b_ieq_t (pc := 11) rw_185_11 (A := 0) rfl (by decide) (s_cl (pc := 23) rw_185_23 rfl (fun l6 => to_rl (pc := 24) rw_185_24 ?_))))))))))
    exact h l6 M2 hG3 F4 
  · refine to_in (pc := 4) rw_178_4 rfl (to_an (pc := 5) rw_178_5 rfl ?_)
    have c_7 : M2.2.1 77 12 = (M.2.1 77 12) := (W_n W1 (by decide) rfl)
    have b_8 := g_b hG (a := 77) (i := 12) (lo := 0) (hi := 8) rfl rfl
    refine tt_gI (pc := 6) rw_178_6 (g_o hG3 rfl) (v := (M.2.1 77 12)) c_7 (b_cge (pc := 9) rw_178_9 (A := f.toInt) (B := (M.2.1 77 12).toInt) rfl rfl (fun h9 => ?_) (fun h9 => ?_))
    · refine to_c (pc := 16) rw_178_16 (x := (0 : Int32)) rfl rfl (s_r1 (pc := 17) rw_178_17 (A := 0) rfl (by decide) (b_ieq_t (pc := 5) rw_179_5 (A := 0) rfl (by decide) (to_c (pc := 22) rw_179_22 (x := (0 : Int32)) rfl rfl (s_r1 (pc := 23) rw_179_23 (A := 0) rfl (by decide) (b_ieq_t (pc := 5) rw_184_5 (A := 0) rfl (by decide) (to_c (pc := 26) rw_184_26 (x := (0 : Int32)) rfl rfl (s_r1 (pc := 27) rw_184_27 (A := 0) rfl (by decide) (b_ieq_t (pc := 11) rw_185_11 (A := 0) rfl (by decide) (s_cl (pc := 23) rw_185_23 rfl (fun l10 => to_rl (pc := 24) rw_185_24 ?_))))))))))
      exact h l10 M2 hG3 F4 
    · refine to_c (pc := 12) rw_178_12 (x := (1 : Int32)) rfl rfl (to_go (pc := 13) rw_178_13 (s_r1 (pc := 17) rw_178_17 (A := 1) rfl (by decide) (b_ieq_f (pc := 5) rw_179_5 (A := 1) rfl (by decide) (to_an (pc := 8) rw_179_8 rfl (s_gR (pc := 9) rw_179_9 hG3 rfl (v := 81) rfl (to_in (pc := 12) rw_179_12 rfl (s_ial (pc := 13) rw_179_13 hG3 rfl (n := 16) rfl rfl (A := f.toInt) rfl (by omega) (by omega) (lo := 0) (hi := 3) rfl rfl (fun v11 w_12 _ _ => ?_))))))))
      have t_13 := congrArg Int32.toInt w_12
      have j_15 := (FA_f (fun a i z => W_n W1 (tg_94 a i z) rfl) q1)
      have j_14 := FA_u j_15 (f.toInt).toNat
      refine to_c (pc := 14) rw_179_14 (x := (3 : Int32)) rfl rfl (b_ceq (pc := 15) rw_179_15 (A := v11.toInt) (B := 3) rfl rfl (fun h16 => ?_) (fun h16 => ?_))
      · refine to_c (pc := 22) rw_179_22 (x := (0 : Int32)) rfl rfl (s_r1 (pc := 23) rw_179_23 (A := 0) rfl (by decide) (b_ieq_t (pc := 5) rw_184_5 (A := 0) rfl (by decide) (to_c (pc := 26) rw_184_26 (x := (0 : Int32)) rfl rfl (s_r1 (pc := 27) rw_184_27 (A := 0) rfl (by decide) (b_ieq_t (pc := 11) rw_185_11 (A := 0) rfl (by decide) (s_cl (pc := 23) rw_185_23 rfl (fun l17 => to_rl (pc := 24) rw_185_24 ?_)))))))
        exact h l17 M2 hG3 F4 
      · refine to_c (pc := 18) rw_179_18 (x := (1 : Int32)) rfl rfl (to_go (pc := 19) rw_179_19 (s_r1 (pc := 23) rw_179_23 (A := 1) rfl (by decide) (b_ieq_f (pc := 5) rw_184_5 (A := 1) rfl (by decide) (to_in (pc := 8) rw_184_8 rfl (b_ilt (pc := 9) rw_184_9 (A := v.toInt) rfl (fun h18 => ?_) (fun h18 => ?_))))))
        · refine to_c (pc := 26) rw_184_26 (x := (0 : Int32)) rfl rfl (s_r1 (pc := 27) rw_184_27 (A := 0) rfl (by decide) (b_ieq_t (pc := 11) rw_185_11 (A := 0) rfl (by decide) (s_cl (pc := 23) rw_185_23 rfl (fun l19 => to_rl (pc := 24) rw_185_24 ?_))))
          exact h l19 M2 hG3 F4 
        · refine to_in (pc := 12) rw_184_12 rfl (to_an (pc := 13) rw_184_13 rfl (s_gR (pc := 14) rw_184_14 hG3 rfl (v := 84) rfl (to_in (pc := 17) rw_184_17 rfl (s_ial (pc := 18) rw_184_18 hG3 rfl (n := 16) rfl rfl (A := f.toInt) rfl (by omega) (by omega) (lo := 0) (hi := 24) rfl rfl (fun v20 w_21 _ _ => ?_)))))
          have t_22 := congrArg Int32.toInt w_21
          refine b_cge (pc := 19) rw_184_19 (A := v.toInt) (B := v20.toInt) rfl rfl (fun h23 => ?_) (fun h23 => ?_)
          · refine to_c (pc := 26) rw_184_26 (x := (0 : Int32)) rfl rfl (s_r1 (pc := 27) rw_184_27 (A := 0) rfl (by decide) (b_ieq_t (pc := 11) rw_185_11 (A := 0) rfl (by decide) (s_cl (pc := 23) rw_185_23 rfl (fun l24 => to_rl (pc := 24) rw_185_24 ?_))))
            exact h l24 M2 hG3 F4 
          · refine to_c (pc := 22) rw_184_22 (x := (1 : Int32)) rfl rfl (to_go (pc := 23) rw_184_23 (s_r1 (pc := 27) rw_184_27 (A := 1) rfl (by decide) (b_ieq_f (pc := 11) rw_185_11 (A := 1) rfl (by decide) (to_an (pc := 14) rw_185_14 rfl (to_in (pc := 15) rw_185_15 rfl (to_in (pc := 16) rw_185_16 rfl (s_v (pc := 17) rw_185_17 (dp0 hd (by decide)) (ls0 := [.ref 77, .int f, .int v]) rfl (Nat.le_of_ble_eq_true rfl) (Nat.le_of_ble_eq_true rfl) rfl (to_rc rfl rfl rfl (g_o hG3 rfl)) rfl ?_)))))))
            have t_25 : (M2.2.1 81 (f.toInt).toNat).toInt = (M.2.1 81 (f.toInt).toNat).toInt := congrArg Int32.toInt (W_n W1 (by omega) rfl)
            refine C_183 hX (dp1 hd (by decide)) hG3 (by omega) (by omega) (by omega) (by omega) (f := f) (v := v) (fun r26 M29 hG28 F27 => ?_)
            have F30 := FR.c F4 F27 tg_90
            refine to_go (pc := 20) rw_185_20 (to_rl (pc := 24) rw_185_24 ?_)
            exact h r26 M29 hG28 F30 
set_option maxRecDepth 4000 in
set_option maxHeartbeats 0 in
theorem C_190 {X : mm_X} {d : Nat} {M : mm_M} {Q : Option Value → mm_M → Prop} {k : Int32} (hX : g_X X) (hd : 1 ≤ d) (hG : g_G M) (q1 : 0 ≤ k.toInt) (q2 : k.toInt ≤ 149) (q3 : k.toInt < (M.2.1 77 29).toInt) (q4 : NJ M) (h : ∀ (M1 : mm_M), g_G M1 → FR md_kn M M1 → Q (none) M1) : mm_T X d 189 0 [.ref 77, .int k, .null] [] M Q := by
  have F0 : FR md_kn M M := FR.rf
  have b_1 := g_b hG (a := 77) (i := 29) (lo := 0) (hi := 150) rfl rfl
  refine to_an (pc := 0) rw_190_0 rfl (s_gR (pc := 1) rw_190_1 hG rfl (v := 91) rfl (to_in (pc := 4) rw_190_4 rfl (s_ial (pc := 5) rw_190_5 hG rfl (n := 150) rfl rfl (A := k.toInt) rfl (by omega) (by omega) (lo := 0) (hi := 149) rfl rfl (fun v2 w_3 _ _ => ?_))))
  have j_4 := NJ_u (A := k.toInt) q4 (by omega) (by omega) (by omega)
  rw [w_3] at j_4
  refine to_isn (pc := 6) rw_190_6 (ls2 := [.ref 77, .int k, .int v2]) rfl rfl (to_an (pc := 7) rw_190_7 rfl (s_gR (pc := 8) rw_190_8 hG rfl (v := 90) rfl (to_in (pc := 11) rw_190_11 rfl (s_ial (pc := 12) rw_190_12 hG rfl (n := 150) rfl rfl (A := k.toInt) rfl (by omega) (by omega) (lo := 0) (hi := 5) rfl rfl (fun v5 w_6 _ _ => ?_)))))
  rw [w_6] at j_4
  rcases (show v5.toInt = 0 ∨ v5.toInt = 1 ∨ v5.toInt = 2 ∨ v5.toInt = 3 ∨ v5.toInt = 4 ∨ (v5.toInt < 0 ∨ 4 < v5.toInt) by omega) with h7 | h7 | h7 | h7 | h7 | h7
  · refine s_sw (pc := 13) rw_190_13 (A := v5.toInt) (k := 0) (t := 48) rfl h7 (by decide) rfl (to_an (pc := 48) rw_190_48 rfl (s_gR (pc := 49) rw_190_49 hG rfl (v := 96) rfl (to_in (pc := 52) rw_190_52 rfl (to_dup2 (pc := 53) rw_190_53 (s_lal (pc := 54) rw_190_54 hG rfl (n := 30) rfl (A := v2.toInt) rfl (by omega) (by omega) (fun l8 => to_an (pc := 55) rw_190_55 rfl (to_an (pc := 56) rw_190_56 rfl (s_gR (pc := 57) rw_190_57 hG rfl (v := 92) rfl (to_in (pc := 60) rw_190_60 rfl (s_ial (pc := 61) rw_190_61 hG rfl (n := 150) rfl rfl (A := k.toInt) rfl (by omega) (by omega) (lo := -2147483648) (hi := 2147483647) rfl rfl (fun v9 w_10 _ _ => ?_)))))))))))
    rw [w_10] at j_4
    refine to_an (pc := 62) rw_190_62 rfl (s_gR (pc := 63) rw_190_63 hG rfl (v := 93) rfl (to_in (pc := 66) rw_190_66 rfl (s_ial (pc := 67) rw_190_67 hG rfl (n := 150) rfl rfl (A := k.toInt) rfl (by omega) (by omega) (lo := -2147483648) (hi := 2147483647) rfl rfl (fun v11 w_12 _ _ => ?_))))
    rw [w_12] at j_4
    refine s_v (pc := 68) rw_190_68 (dp0 hd (by decide)) (ls0 := [.ref 77, .int v9, .int v11]) rfl (Nat.le_of_ble_eq_true rfl) (Nat.le_of_ble_eq_true rfl) rfl (to_rc rfl rfl rfl (g_o hG rfl)) rfl (C_183 hX (dp1 hd (by decide)) hG (by omega) (by omega) (by omega) (by omega) (f := v9) (v := v11) (fun r13 M16 hG15 F14 => ?_))
    have F17 := FR.c F0 F14 tg_261
    refine s_anyL (pc := 71) rw_190_71 (fun _ _ => rfl) (fun l18 => s_las (pc := 72) rw_190_72 hG15 rfl (n := 30) rfl (A := v2.toInt) rfl (by omega) (by omega) (fun M20 W19 => ?_))
    have hG21 := g_wl hG15 W19
    have F22 := FR.wl F17 W19 (show 94 ≤ 96 ∧ 96 ≤ 98 by decide)
    refine to_an (pc := 73) rw_190_73 rfl (s_gR (pc := 74) rw_190_74 hG21 rfl (v := 97) rfl (to_c (pc := 77) rw_190_77 (x := (8 : Int32)) rfl rfl (to_in (pc := 79) rw_190_79 rfl (s_mul (pc := 80) rw_190_80 (A := 8) (B := v2.toInt) rfl rfl (by omega) (fun v23 e24 => to_an (pc := 81) rw_190_81 rfl (s_gR (pc := 82) rw_190_82 hG21 rfl (v := 92) rfl (to_in (pc := 85) rw_190_85 rfl (s_ialk (pc := 86) rw_190_86 hG21 rfl (n := 150) rfl rfl (A := k.toInt) rfl (by omega) (by omega) (v := v9) (W_l W19 (F_n F14 (show ¬ (92 < 0) by decide) w_10)) (s_addo (pc := 87) rw_190_87 (A := v23.toInt) (B := v9.toInt) rfl rfl (fun v27 e28 => to_an (pc := 88) rw_190_88 rfl (s_gR (pc := 89) rw_190_89 hG21 rfl (v := 93) rfl ?_)))))))))))
    refine to_in (pc := 92) rw_190_92 rfl (s_ialk (pc := 93) rw_190_93 hG21 rfl (n := 150) rfl rfl (A := k.toInt) rfl (by omega) (by omega) (v := v11) (W_l W19 (F_n F14 (show ¬ (93 < 0) by decide) w_12)) (s_ias (pc := 94) rw_190_94 hG21 rfl (n := 240) rfl (A := v27.toInt) rfl (by omega) (by omega) (fun M32 W31 => ?_)))
    have hG33 := g_wf hG21 W31 rfl rfl (by decide)
    have F34 := FR.w F22 W31 (show 94 ≤ 97 ∧ 97 ≤ 98 by decide)
    refine to_go (pc := 95) rw_190_95 (to_rv (pc := 202) rw_190_202 ?_)
    exact h M32 hG33 F34 
  · refine s_sw (pc := 13) rw_190_13 (A := v5.toInt) (k := 1) (t := 98) rfl h7 (by decide) rfl (to_an (pc := 98) rw_190_98 rfl (s_gR (pc := 99) rw_190_99 hG rfl (v := 96) rfl (to_in (pc := 102) rw_190_102 rfl (to_dup2 (pc := 103) rw_190_103 (s_lal (pc := 104) rw_190_104 hG rfl (n := 30) rfl (A := v2.toInt) rfl (by omega) (by omega) (fun l35 => to_an (pc := 105) rw_190_105 rfl (s_gR (pc := 106) rw_190_106 hG rfl (v := 95) rfl (to_an (pc := 109) rw_190_109 rfl (s_gR (pc := 110) rw_190_110 hG rfl (v := 92) rfl (to_in (pc := 113) rw_190_113 rfl (s_ial (pc := 114) rw_190_114 hG rfl (n := 150) rfl rfl (A := k.toInt) rfl (by omega) (by omega) (lo := -2147483648) (hi := 2147483647) rfl rfl (fun v36 w_37 _ _ => ?_))))))))))))
    rw [w_37] at j_4
    refine s_lal (pc := 115) rw_190_115 hG rfl (n := 12) rfl (A := v36.toInt) rfl (by omega) (by omega) (fun l38 => s_anyL (pc := 116) rw_190_116 (fun _ _ => rfl) (fun l39 => s_las (pc := 117) rw_190_117 hG rfl (n := 30) rfl (A := v2.toInt) rfl (by omega) (by omega) (fun M41 W40 => ?_)))
    have hG42 := g_wl hG W40
    have F43 := FR.wl F0 W40 (show 94 ≤ 96 ∧ 96 ≤ 98 by decide)
    refine to_an (pc := 118) rw_190_118 rfl (s_gR (pc := 119) rw_190_119 hG42 rfl (v := 98) rfl (to_in (pc := 122) rw_190_122 rfl (to_dup2 (pc := 123) rw_190_123 (s_ial (pc := 124) rw_190_124 hG42 rfl (n := 30) rfl rfl (A := v2.toInt) rfl (by omega) (by omega) (lo := -2147483648) (hi := 2147483647) rfl rfl (fun v44 w_45 _ _ => to_c (pc := 125) rw_190_125 (x := (1 : Int32)) rfl rfl (to_an (pc := 126) rw_190_126 rfl (s_gR (pc := 127) rw_190_127 hG42 rfl (v := 92) rfl (to_in (pc := 130) rw_190_130 rfl (s_ialk (pc := 131) rw_190_131 hG42 rfl (n := 150) rfl rfl (A := k.toInt) rfl (by omega) (by omega) (v := v36) (W_l W40 w_37) (s_any (pc := 132) rw_190_132 (fun _ _ => rfl) (fun v48 => s_any (pc := 133) rw_190_133 (fun _ _ => rfl) (fun v49 => ?_))))))))))))
    refine s_ias (pc := 134) rw_190_134 hG42 rfl (n := 30) rfl (A := v2.toInt) rfl (by omega) (by omega) (fun M51 W50 => ?_)
    have hG52 := g_wf hG42 W50 rfl rfl (by decide)
    have F53 := FR.w F43 W50 (show 94 ≤ 98 ∧ 98 ≤ 98 by decide)
    refine to_go (pc := 135) rw_190_135 (to_rv (pc := 202) rw_190_202 ?_)
    exact h M51 hG52 F53 
  · refine s_sw (pc := 13) rw_190_13 (A := v5.toInt) (k := 2) (t := 138) rfl h7 (by decide) rfl (to_an (pc := 138) rw_190_138 rfl (s_gR (pc := 139) rw_190_139 hG rfl (v := 96) rfl (to_in (pc := 142) rw_190_142 rfl (to_dup2 (pc := 143) rw_190_143 (s_lal (pc := 144) rw_190_144 hG rfl (n := 30) rfl (A := v2.toInt) rfl (by omega) (by omega) (fun l54 => s_cl (pc := 145) rw_190_145 rfl (fun l55 => to_an (pc := 146) rw_190_146 rfl (s_gR (pc := 147) rw_190_147 hG rfl (v := 92) rfl (to_in (pc := 150) rw_190_150 rfl (s_ial (pc := 151) rw_190_151 hG rfl (n := 150) rfl rfl (A := k.toInt) rfl (by omega) (by omega) (lo := -2147483648) (hi := 2147483647) rfl rfl (fun v56 w_57 _ _ => ?_)))))))))))
    rw [w_57] at j_4
    refine s_anyS (pc := 152) rw_190_152 (fun _ _ => rfl) (fun l58 => s_anyL (pc := 153) rw_190_153 (fun _ _ => rfl) (fun l59 => s_las (pc := 154) rw_190_154 hG rfl (n := 30) rfl (A := v2.toInt) rfl (by omega) (by omega) (fun M61 W60 => ?_)))
    have hG62 := g_wl hG W60
    have F63 := FR.wl F0 W60 (show 94 ≤ 96 ∧ 96 ≤ 98 by decide)
    refine to_go (pc := 155) rw_190_155 (to_rv (pc := 202) rw_190_202 ?_)
    exact h M61 hG62 F63 
  · refine s_sw (pc := 13) rw_190_13 (A := v5.toInt) (k := 3) (t := 158) rfl h7 (by decide) rfl (to_an (pc := 158) rw_190_158 rfl (s_gR (pc := 159) rw_190_159 hG rfl (v := 96) rfl (to_in (pc := 162) rw_190_162 rfl (to_dup2 (pc := 163) rw_190_163 (s_lal (pc := 164) rw_190_164 hG rfl (n := 30) rfl (A := v2.toInt) rfl (by omega) (by omega) (fun l64 => s_cl (pc := 165) rw_190_165 rfl (fun l65 => to_an (pc := 166) rw_190_166 rfl (s_gR (pc := 167) rw_190_167 hG rfl (v := 92) rfl (to_in (pc := 170) rw_190_170 rfl (s_ial (pc := 171) rw_190_171 hG rfl (n := 150) rfl rfl (A := k.toInt) rfl (by omega) (by omega) (lo := -2147483648) (hi := 2147483647) rfl rfl (fun v66 w_67 _ _ => ?_)))))))))))
    rw [w_67] at j_4
    refine s_anyS (pc := 172) rw_190_172 (fun _ _ => rfl) (fun l68 => s_cl (pc := 173) rw_190_173 rfl (fun l69 => s_anyL (pc := 176) rw_190_176 (fun _ _ => rfl) (fun l70 => s_anyL (pc := 177) rw_190_177 (fun _ _ => rfl) (fun l71 => s_las (pc := 178) rw_190_178 hG rfl (n := 30) rfl (A := v2.toInt) rfl (by omega) (by omega) (fun M73 W72 => ?_)))))
    have hG74 := g_wl hG W72
    have F75 := FR.wl F0 W72 (show 94 ≤ 96 ∧ 96 ≤ 98 by decide)
    refine to_go (pc := 179) rw_190_179 (to_rv (pc := 202) rw_190_202 ?_)
    exact h M73 hG74 F75 
  · refine s_sw (pc := 13) rw_190_13 (A := v5.toInt) (k := 4) (t := 182) rfl h7 (by decide) rfl (to_an (pc := 182) rw_190_182 rfl (s_gR (pc := 183) rw_190_183 hG rfl (v := 95) rfl (to_in (pc := 186) rw_190_186 rfl (to_an (pc := 187) rw_190_187 rfl (to_in (pc := 188) rw_190_188 rfl (to_an (pc := 189) rw_190_189 rfl (s_gR (pc := 190) rw_190_190 hG rfl (v := 92) rfl (to_in (pc := 193) rw_190_193 rfl (s_ial (pc := 194) rw_190_194 hG rfl (n := 150) rfl rfl (A := k.toInt) rfl (by omega) (by omega) (lo := -2147483648) (hi := 2147483647) rfl rfl (fun v76 w_77 _ _ => ?_))))))))))
    rw [w_77] at j_4
    refine s_v (pc := 195) rw_190_195 (dp0 hd (by decide)) (ls0 := [.ref 77, .int v2, .int v76]) rfl (Nat.le_of_ble_eq_true rfl) (Nat.le_of_ble_eq_true rfl) rfl (to_rc rfl rfl rfl (g_o hG rfl)) rfl (to_in (pc := 0) rw_188_0 rfl (s_i2l (pc := 1) rw_188_1 (fun l78 e79 => to_an (pc := 2) rw_188_2 rfl (s_gR (pc := 3) rw_188_3 hG rfl (v := 82) rfl (to_an (pc := 6) rw_188_6 rfl (s_gR (pc := 7) rw_188_7 hG rfl (v := 86) rfl (to_in (pc := 10) rw_188_10 rfl (s_ial (pc := 11) rw_188_11 hG rfl (n := 24) rfl rfl (A := v2.toInt) rfl (by omega) (by omega) (lo := 0) (hi := 7) rfl rfl (fun v80 w_81 _ _ => s_ial (pc := 12) rw_188_12 hG rfl (n := 16) rfl rfl (A := v80.toInt) rfl (by omega) (by omega) (lo := 0) (hi := 59) rfl rfl (fun v82 w_83 _ _ => s_anyS (pc := 13) rw_188_13 (fun _ _ => rfl) (fun l84 => to_rl (pc := 14) rw_188_14 ?_)))))))))))
    refine s_las (pc := 198) rw_190_198 hG rfl (n := 12) rfl (A := v2.toInt) rfl (by omega) (by omega) (fun M86 W85 => ?_)
    have hG87 := g_wl hG W85
    have F88 := FR.wl F0 W85 (show 94 ≤ 95 ∧ 95 ≤ 98 by decide)
    refine to_go (pc := 199) rw_190_199 (to_rv (pc := 202) rw_190_202 ?_)
    exact h M86 hG87 F88 
  · refine s_swd (pc := 13) rw_190_13 (A := v5.toInt) rfl h7 (to_rv (pc := 202) rw_190_202 ?_)
    exact h M hG F0 
set_option maxRecDepth 4000 in
set_option maxHeartbeats 0 in
theorem T_189_0 {X : mm_X} {d : Nat} {M : mm_M} {Q : Option Value → mm_M → Prop} {n : Int32} (hX : g_X X) (hd : 2 ≤ d) (q1 : 0 ≤ n.toInt) (q2 : n.toInt ≤ 150) (q3 : n.toInt ≤ (M.2.1 77 29).toInt) (q4 : NJ M) (h : ∀ (M1 : mm_M), g_G M1 → FR md_kn M M1 → Q (none) M1) : ∀ nn9 : Nat, (∀ (N : mm_M) (x2 : Int32) (u3 : Value), g_G N → FR md_kn M N → (0 ≤ x2.toInt) → (x2.toInt ≤ 150) → (n.toInt ≤ (N.2.1 77 29).toInt) → (NJ N) → 150 - x2.toInt < (nn9 : Int) → mm_T X d 188 151 [.ref 77, .int n, .int x2, u3] [] N Q) := by
  intro nn9
  induction nn9 with
  | zero =>
    intro N x2 u3 hG F0 g1 g2 g3 g4 hm
    have b_1 := g_b hG (a := 77) (i := 29) (lo := 0) (hi := 150) rfl rfl
    exfalso; omega
  | succ nn9 ih =>
    intro N x2 u3 hG F0 g1 g2 g3 g4 hm
    have b_2 := g_b hG (a := 77) (i := 29) (lo := 0) (hi := 150) rfl rfl
    refine to_in (pc := 151) rw_189_151 rfl (to_in (pc := 152) rw_189_152 rfl (b_cge (pc := 153) rw_189_153 (A := x2.toInt) (B := n.toInt) rfl rfl (fun h3 => ?_) (fun h3 => ?_)))
    · refine to_rv (pc := 176) rw_189_176 ?_
      exact h N hG F0 
    · refine to_an (pc := 156) rw_189_156 rfl (s_gR (pc := 157) rw_189_157 hG rfl (v := 94) rfl (to_in (pc := 160) rw_189_160 rfl (s_bal (pc := 161) rw_189_161 hG rfl (n := 150) rfl (A := x2.toInt) rfl (by omega) (by omega) (lo := 0) (hi := 1) rfl rfl (fun v4 w_5 _ _ => b_ieq (pc := 162) rw_189_162 (A := v4.toInt) rfl (fun h6 => ?_) (fun h6 => ?_)))))
      · refine s_inc (pc := 170) rw_189_170 (ls2 := fun v => [.ref 77, .int n, .int v, u3]) rfl rfl (fun _ => rfl) (A := x2.toInt) (B := 1) rfl rfl (by omega) (fun v7 e8 => to_go (pc := 173) rw_189_173 ?_)
        exact ih N v7 (u3) hG F0 (by omega) (by omega) (by omega) g4 (by omega)
      · refine to_an (pc := 165) rw_189_165 rfl (to_in (pc := 166) rw_189_166 rfl (s_v (pc := 167) rw_189_167 (dp0 hd (by decide)) (ls0 := [.ref 77, .int x2, .null]) rfl (Nat.le_of_ble_eq_true rfl) (Nat.le_of_ble_eq_true rfl) rfl (to_rc rfl rfl rfl (g_o hG rfl)) rfl (C_190 hX (dp1 hd (by decide)) hG (by omega) (by omega) (by omega) g4 (k := x2) (fun M11 hG10 F9 => ?_))))
        have F12 := FR.c F0 F9 tg_262
        refine s_inc (pc := 170) rw_189_170 (ls2 := fun v => [.ref 77, .int n, .int v, u3]) rfl rfl (fun _ => rfl) (A := x2.toInt) (B := 1) rfl rfl (by omega) (fun v13 e14 => to_go (pc := 173) rw_189_173 ?_)
        have c_15 : M11.2.1 77 29 = (N.2.1 77 29) := (F_n F9 (show ¬ (94 ≤ 77 ∧ 77 ≤ 98) by decide) rfl)
        have t_16 : (M11.2.1 77 29).toInt = (N.2.1 77 29).toInt := congrArg Int32.toInt c_15
        have j_17 := (NJ_f (tg_260 F9) g4)
        exact ih M11 v13 (u3) hG10 F12 (by omega) (by omega) (by omega) j_17 (by omega)
set_option maxRecDepth 4000 in
set_option maxHeartbeats 0 in
theorem T_189_1 {X : mm_X} {d : Nat} {M : mm_M} {Q : Option Value → mm_M → Prop} {n : Int32} (hX : g_X X) (hd : 2 ≤ d) (q1 : 0 ≤ n.toInt) (q2 : n.toInt ≤ 150) (q3 : n.toInt ≤ (M.2.1 77 29).toInt) (q4 : NJ M) (h : ∀ (M1 : mm_M), g_G M1 → FR md_kn M M1 → Q (none) M1) : ∀ nn9 : Nat, (∀ (N : mm_M) (x2 : Int32) (u3 : Value), g_G N → FR md_kn M N → (0 ≤ x2.toInt) → (x2.toInt ≤ 30) → (n.toInt ≤ (N.2.1 77 29).toInt) → (NJ N) → (30 - x2.toInt) * 100 + 50 < (nn9 : Int) → mm_T X d 188 95 [.ref 77, .int n, .int x2, u3] [] N Q) ∧ (∀ (N : mm_M) (x2 : Int32) (x3 : Int32), g_G N → FR md_kn M N → (0 ≤ x2.toInt) → (x2.toInt ≤ 29) → (0 ≤ x3.toInt) → (x3.toInt ≤ 8) → (n.toInt ≤ (N.2.1 77 29).toInt) → (NJ N) → (30 - x2.toInt) * 100 + 8 - x3.toInt < (nn9 : Int) → mm_T X d 188 119 [.ref 77, .int n, .int x2, .int x3] [] N Q) := by
  intro nn9
  induction nn9 with
  | zero =>
    refine ⟨?_, ?_⟩
    · intro N x2 u3 hG F0 g1 g2 g3 g4 hm
      have b_18 := g_b hG (a := 77) (i := 29) (lo := 0) (hi := 150) rfl rfl
      exfalso; omega
    · intro N x2 x3 hG F0 g1 g2 g3 g4 g5 g6 hm
      have b_19 := g_b hG (a := 77) (i := 29) (lo := 0) (hi := 150) rfl rfl
      exfalso; omega
  | succ nn9 ih =>
    refine ⟨?_, ?_⟩
    · intro N x2 u3 hG F0 g1 g2 g3 g4 hm
      have b_20 := g_b hG (a := 77) (i := 29) (lo := 0) (hi := 150) rfl rfl
      refine to_in (pc := 95) rw_189_95 rfl (to_an (pc := 96) rw_189_96 rfl ?_)
      have b_21 := g_b hG (a := 77) (i := 28) (lo := 0) (hi := 30) rfl rfl
      refine tt_gI (pc := 97) rw_189_97 (g_o hG rfl) (v := (N.2.1 77 28)) rfl (b_cge (pc := 100) rw_189_100 (A := x2.toInt) (B := (N.2.1 77 28).toInt) rfl rfl (fun h22 => ?_) (fun h22 => ?_))
      · refine to_c (pc := 149) rw_189_149 (x := (0 : Int32)) rfl rfl (to_isn (pc := 150) rw_189_150 (ls2 := [.ref 77, .int n, .int (0 : Int32), u3]) rfl rfl ?_)
        have k_23 : (0 : Int32).toInt = 0 := rfl
        exact (T_189_0 (n := n) hX hd q1 q2 q3 q4 h ((150 - (0 : Int32).toInt).toNat + 1)) N (0 : Int32) (u3) hG F0 (by omega) (by omega) (by omega) g4 (by omega)
      · refine to_an (pc := 103) rw_189_103 rfl (s_gR (pc := 104) rw_189_104 hG rfl (v := 96) rfl (to_in (pc := 107) rw_189_107 rfl (s_cl (pc := 108) rw_189_108 rfl (fun l24 => s_las (pc := 109) rw_189_109 hG rfl (n := 30) rfl (A := x2.toInt) rfl (by omega) (by omega) (fun M26 W25 => ?_)))))
        have hG27 := g_wl hG W25
        have F28 := FR.wl F0 W25 (show 94 ≤ 96 ∧ 96 ≤ 98 by decide)
        refine to_an (pc := 110) rw_189_110 rfl (s_gR (pc := 111) rw_189_111 hG27 rfl (v := 98) rfl (to_in (pc := 114) rw_189_114 rfl (to_c (pc := 115) rw_189_115 (x := (0 : Int32)) rfl rfl (s_ias (pc := 116) rw_189_116 hG27 rfl (n := 30) rfl (A := x2.toInt) rfl (by omega) (by omega) (fun M30 W29 => ?_)))))
        have hG31 := g_wf hG27 W29 rfl rfl (by decide)
        have F32 := FR.w F28 W29 (show 94 ≤ 98 ∧ 98 ≤ 98 by decide)
        refine to_c (pc := 117) rw_189_117 (x := (0 : Int32)) rfl rfl (to_isn (pc := 118) rw_189_118 (ls2 := [.ref 77, .int n, .int x2, .int (0 : Int32)]) rfl rfl ?_)
        have k_33 : (0 : Int32).toInt = 0 := rfl
        have c_34 : M30.2.1 77 29 = (N.2.1 77 29) := (W_n W29 (fun z => absurd z.1 (by decide)) (W_l W25 rfl))
        have t_35 : (M30.2.1 77 29).toInt = (N.2.1 77 29).toInt := congrArg Int32.toInt c_34
        have j_36 := (NJ_f (fun a i z => W_n W29 (by /-r98-/ omega) rfl) (NJ_f (fun a i z => W_l W25 rfl) g4))
        exact ih.2 M30 x2 (0 : Int32) hG31 F32 (by omega) (by omega) (by omega) (by omega) (by omega) j_36 (by omega)
    · intro N x2 x3 hG F0 g1 g2 g3 g4 g5 g6 hm
      have b_37 := g_b hG (a := 77) (i := 29) (lo := 0) (hi := 150) rfl rfl
      refine to_in (pc := 119) rw_189_119 rfl (to_c (pc := 120) rw_189_120 (x := (8 : Int32)) rfl rfl (b_cge (pc := 122) rw_189_122 (A := x3.toInt) (B := 8) rfl rfl (fun h38 => ?_) (fun h38 => ?_)))
      · refine s_inc (pc := 143) rw_189_143 (ls2 := fun v => [.ref 77, .int n, .int v, .int x3]) rfl rfl (fun _ => rfl) (A := x2.toInt) (B := 1) rfl rfl (by omega) (fun v39 e40 => to_go (pc := 146) rw_189_146 ?_)
        exact ih.1 N v39 (.int x3) hG F0 (by omega) (by omega) (by omega) g6 (by omega)
      · refine to_an (pc := 125) rw_189_125 rfl (s_gR (pc := 126) rw_189_126 hG rfl (v := 97) rfl (to_c (pc := 129) rw_189_129 (x := (8 : Int32)) rfl rfl (to_in (pc := 131) rw_189_131 rfl (s_mul (pc := 132) rw_189_132 (A := 8) (B := x2.toInt) rfl rfl (by omega) (fun v41 e42 => to_in (pc := 133) rw_189_133 rfl (s_add (pc := 134) rw_189_134 (A := v41.toInt) (B := x3.toInt) rfl rfl (by omega) (fun v43 e44 => to_c (pc := 135) rw_189_135 (x := (-1 : Int32)) rfl rfl (s_ias (pc := 136) rw_189_136 hG rfl (n := 240) rfl (A := v43.toInt) rfl (by omega) (by omega) (fun M46 W45 => ?_)))))))))
        have hG47 := g_wf hG W45 rfl rfl (by decide)
        have F48 := FR.w F0 W45 (show 94 ≤ 97 ∧ 97 ≤ 98 by decide)
        refine s_inc (pc := 137) rw_189_137 (ls2 := fun v => [.ref 77, .int n, .int x2, .int v]) rfl rfl (fun _ => rfl) (A := x3.toInt) (B := 1) rfl rfl (by omega) (fun v49 e50 => to_go (pc := 140) rw_189_140 ?_)
        have c_51 : M46.2.1 77 29 = (N.2.1 77 29) := (W_n W45 (fun z => absurd z.1 (by decide)) rfl)
        have t_52 : (M46.2.1 77 29).toInt = (N.2.1 77 29).toInt := congrArg Int32.toInt c_51
        have j_53 := (NJ_f (fun a i z => W_n W45 (by /-r97-/ omega) rfl) g6)
        exact ih.2 M46 x2 v49 hG47 F48 (by omega) (by omega) (by omega) (by omega) (by omega) j_53 (by omega)
set_option maxRecDepth 4000 in
set_option maxHeartbeats 0 in
theorem T_189_2 {X : mm_X} {d : Nat} {M : mm_M} {Q : Option Value → mm_M → Prop} {n : Int32} (hX : g_X X) (hd : 2 ≤ d) (q1 : 0 ≤ n.toInt) (q2 : n.toInt ≤ 150) (q3 : n.toInt ≤ (M.2.1 77 29).toInt) (q4 : NJ M) (h : ∀ (M1 : mm_M), g_G M1 → FR md_kn M M1 → Q (none) M1) : ∀ nn9 : Nat, (∀ (N : mm_M) (x2 : Int32) (u3 : Value), g_G N → FR md_kn M N → (0 ≤ x2.toInt) → (x2.toInt ≤ 12) → (n.toInt ≤ (N.2.1 77 29).toInt) → (NJ N) → 12 - x2.toInt < (nn9 : Int) → mm_T X d 188 67 [.ref 77, .int n, .int x2, u3] [] N Q) := by
  intro nn9
  induction nn9 with
  | zero =>
    intro N x2 u3 hG F0 g1 g2 g3 g4 hm
    have b_54 := g_b hG (a := 77) (i := 29) (lo := 0) (hi := 150) rfl rfl
    exfalso; omega
  | succ nn9 ih =>
    intro N x2 u3 hG F0 g1 g2 g3 g4 hm
    have b_55 := g_b hG (a := 77) (i := 29) (lo := 0) (hi := 150) rfl rfl
    refine to_in (pc := 67) rw_189_67 rfl (to_an (pc := 68) rw_189_68 rfl ?_)
    have b_56 := g_b hG (a := 77) (i := 13) (lo := 0) (hi := 12) rfl rfl
    refine tt_gI (pc := 69) rw_189_69 (g_o hG rfl) (v := (N.2.1 77 13)) rfl (b_cge (pc := 72) rw_189_72 (A := x2.toInt) (B := (N.2.1 77 13).toInt) rfl rfl (fun h57 => ?_) (fun h57 => ?_))
    · refine to_c (pc := 93) rw_189_93 (x := (0 : Int32)) rfl rfl (to_isn (pc := 94) rw_189_94 (ls2 := [.ref 77, .int n, .int (0 : Int32), u3]) rfl rfl ?_)
      have k_58 : (0 : Int32).toInt = 0 := rfl
      exact (T_189_1 (n := n) hX hd q1 q2 q3 q4 h (((30 - (0 : Int32).toInt) * 100 + 50).toNat + 1)).1 N (0 : Int32) (u3) hG F0 (by omega) (by omega) (by omega) g4 (by omega)
    · refine to_an (pc := 75) rw_189_75 rfl (s_gR (pc := 76) rw_189_76 hG rfl (v := 95) rfl (to_in (pc := 79) rw_189_79 rfl (to_an (pc := 80) rw_189_80 rfl (s_gR (pc := 81) rw_189_81 hG rfl (v := 87) rfl (to_in (pc := 84) rw_189_84 rfl (s_lal (pc := 85) rw_189_85 hG rfl (n := 24) rfl (A := x2.toInt) rfl (by omega) (by omega) (fun l59 => s_las (pc := 86) rw_189_86 hG rfl (n := 12) rfl (A := x2.toInt) rfl (by omega) (by omega) (fun M61 W60 => ?_))))))))
      have hG62 := g_wl hG W60
      have F63 := FR.wl F0 W60 (show 94 ≤ 95 ∧ 95 ≤ 98 by decide)
      refine s_inc (pc := 87) rw_189_87 (ls2 := fun v => [.ref 77, .int n, .int v, u3]) rfl rfl (fun _ => rfl) (A := x2.toInt) (B := 1) rfl rfl (by omega) (fun v64 e65 => to_go (pc := 90) rw_189_90 ?_)
      have c_66 : M61.2.1 77 29 = (N.2.1 77 29) := (W_l W60 rfl)
      have t_67 : (M61.2.1 77 29).toInt = (N.2.1 77 29).toInt := congrArg Int32.toInt c_66
      have j_68 := (NJ_f (fun a i z => W_l W60 rfl) g4)
      exact ih M61 v64 (u3) hG62 F63 (by omega) (by omega) (by omega) j_68 (by omega)
set_option maxRecDepth 4000 in
set_option maxHeartbeats 0 in
theorem T_189_3 {X : mm_X} {d : Nat} {M : mm_M} {Q : Option Value → mm_M → Prop} {n : Int32} (hX : g_X X) (hd : 2 ≤ d) (q1 : 0 ≤ n.toInt) (q2 : n.toInt ≤ 150) (q3 : n.toInt ≤ (M.2.1 77 29).toInt) (q4 : NJ M) (h : ∀ (M1 : mm_M), g_G M1 → FR md_kn M M1 → Q (none) M1) : ∀ nn9 : Nat, (∀ (N : mm_M) (x2 : Int32) (u3 : Value), g_G N → FR md_kn M N → (-1 ≤ x2.toInt) → (x2.toInt ≤ 149) → (n.toInt ≤ (N.2.1 77 29).toInt) → (NJ N) → x2.toInt + 1 < (nn9 : Int) → mm_T X d 188 24 [.ref 77, .int n, .int x2, u3] [] N Q) := by
  intro nn9
  induction nn9 with
  | zero =>
    intro N x2 u3 hG F0 g1 g2 g3 g4 hm
    have b_69 := g_b hG (a := 77) (i := 29) (lo := 0) (hi := 150) rfl rfl
    exfalso; omega
  | succ nn9 ih =>
    intro N x2 u3 hG F0 g1 g2 g3 g4 hm
    have b_70 := g_b hG (a := 77) (i := 29) (lo := 0) (hi := 150) rfl rfl
    refine to_in (pc := 24) rw_189_24 rfl (b_ilt (pc := 25) rw_189_25 (A := x2.toInt) rfl (fun h71 => ?_) (fun h71 => ?_))
    · refine to_c (pc := 65) rw_189_65 (x := (0 : Int32)) rfl rfl (to_isn (pc := 66) rw_189_66 (ls2 := [.ref 77, .int n, .int (0 : Int32), u3]) rfl rfl ?_)
      have k_72 : (0 : Int32).toInt = 0 := rfl
      exact (T_189_2 (n := n) hX hd q1 q2 q3 q4 h ((12 - (0 : Int32).toInt).toNat + 1)) N (0 : Int32) (u3) hG F0 (by omega) (by omega) (by omega) g4 (by omega)
    · refine to_an (pc := 28) rw_189_28 rfl (s_gR (pc := 29) rw_189_29 hG rfl (v := 90) rfl (to_in (pc := 32) rw_189_32 rfl (s_ial (pc := 33) rw_189_33 hG rfl (n := 150) rfl rfl (A := x2.toInt) rfl (by omega) (by omega) (lo := 0) (hi := 5) rfl rfl (fun v73 w_74 _ _ => to_c (pc := 34) rw_189_34 (x := (5 : Int32)) rfl rfl (b_cne (pc := 35) rw_189_35 (A := v73.toInt) (B := 5) rfl rfl (fun h75 => ?_) (fun h75 => ?_))))))
      · refine s_inc (pc := 59) rw_189_59 (ls2 := fun v => [.ref 77, .int n, .int v, u3]) rfl rfl (fun _ => rfl) (A := x2.toInt) (B := -1) rfl rfl (by omega) (fun v76 e77 => to_go (pc := 62) rw_189_62 ?_)
        exact ih N v76 (u3) hG F0 (by omega) (by omega) (by omega) g4 (by omega)
      · refine to_an (pc := 38) rw_189_38 rfl (s_gR (pc := 39) rw_189_39 hG rfl (v := 94) rfl (to_in (pc := 42) rw_189_42 rfl (s_bal (pc := 43) rw_189_43 hG rfl (n := 150) rfl (A := x2.toInt) rfl (by omega) (by omega) (lo := 0) (hi := 1) rfl rfl (fun v78 w_79 _ _ => b_ieq (pc := 44) rw_189_44 (A := v78.toInt) rfl (fun h80 => ?_) (fun h80 => ?_)))))
        · refine s_inc (pc := 59) rw_189_59 (ls2 := fun v => [.ref 77, .int n, .int v, u3]) rfl rfl (fun _ => rfl) (A := x2.toInt) (B := -1) rfl rfl (by omega) (fun v81 e82 => to_go (pc := 62) rw_189_62 ?_)
          exact ih N v81 (u3) hG F0 (by omega) (by omega) (by omega) g4 (by omega)
        · refine to_an (pc := 47) rw_189_47 rfl (s_gR (pc := 48) rw_189_48 hG rfl (v := 94) rfl (to_an (pc := 51) rw_189_51 rfl (s_gR (pc := 52) rw_189_52 hG rfl (v := 91) rfl (to_in (pc := 55) rw_189_55 rfl (s_ial (pc := 56) rw_189_56 hG rfl (n := 150) rfl rfl (A := x2.toInt) rfl (by omega) (by omega) (lo := 0) (hi := 149) rfl rfl (fun v83 w_84 _ _ => to_c (pc := 57) rw_189_57 (x := (0 : Int32)) rfl rfl (s_zas (pc := 58) rw_189_58 hG rfl (n := 150) rfl (A := v83.toInt) rfl (by omega) (by omega) (B := 0) rfl (by omega) (fun M86 W85 => ?_))))))))
          have hG87 := g_w hG W85 (A := 0) rfl (lo := 0) (hi := 1) rfl rfl (by omega) (by decide)
          have F88 := FR.w F0 W85 (show 94 ≤ 94 ∧ 94 ≤ 98 by decide)
          refine s_inc (pc := 59) rw_189_59 (ls2 := fun v => [.ref 77, .int n, .int v, u3]) rfl rfl (fun _ => rfl) (A := x2.toInt) (B := -1) rfl rfl (by omega) (fun v89 e90 => to_go (pc := 62) rw_189_62 ?_)
          have c_91 : M86.2.1 77 29 = (N.2.1 77 29) := (W_n W85 (fun z => absurd z.1 (by decide)) rfl)
          have t_92 : (M86.2.1 77 29).toInt = (N.2.1 77 29).toInt := congrArg Int32.toInt c_91
          have j_93 := (NJ_f (fun a i z => W_n W85 (by /-r94-/ omega) rfl) g4)
          exact ih M86 v89 (u3) hG87 F88 (by omega) (by omega) (by omega) j_93 (by omega)
set_option maxRecDepth 4000 in
set_option maxHeartbeats 0 in
theorem T_189_4 {X : mm_X} {d : Nat} {M : mm_M} {Q : Option Value → mm_M → Prop} {n : Int32} (hX : g_X X) (hd : 2 ≤ d) (q1 : 0 ≤ n.toInt) (q2 : n.toInt ≤ 150) (q3 : n.toInt ≤ (M.2.1 77 29).toInt) (q4 : NJ M) (h : ∀ (M1 : mm_M), g_G M1 → FR md_kn M M1 → Q (none) M1) : ∀ nn9 : Nat, (∀ (N : mm_M) (x2 : Int32) (u3 : Value), g_G N → FR md_kn M N → (0 ≤ x2.toInt) → (x2.toInt ≤ 150) → (n.toInt ≤ (N.2.1 77 29).toInt) → (NJ N) → 150 - x2.toInt < (nn9 : Int) → mm_T X d 188 2 [.ref 77, .int n, .int x2, u3] [] N Q) := by
  intro nn9
  induction nn9 with
  | zero =>
    intro N x2 u3 hG F0 g1 g2 g3 g4 hm
    have b_94 := g_b hG (a := 77) (i := 29) (lo := 0) (hi := 150) rfl rfl
    exfalso; omega
  | succ nn9 ih =>
    intro N x2 u3 hG F0 g1 g2 g3 g4 hm
    have b_95 := g_b hG (a := 77) (i := 29) (lo := 0) (hi := 150) rfl rfl
    refine to_in (pc := 2) rw_189_2 rfl (to_in (pc := 3) rw_189_3 rfl (b_cge (pc := 4) rw_189_4 (A := x2.toInt) (B := n.toInt) rfl rfl (fun h96 => ?_) (fun h96 => ?_)))
    · refine to_in (pc := 20) rw_189_20 rfl (to_c (pc := 21) rw_189_21 (x := (1 : Int32)) rfl rfl (s_sub (pc := 22) rw_189_22 (A := n.toInt) (B := 1) rfl rfl (by omega) (fun v97 e98 => to_isn (pc := 23) rw_189_23 (ls2 := [.ref 77, .int n, .int v97, u3]) rfl rfl ?_)))
      exact (T_189_3 (n := n) hX hd q1 q2 q3 q4 h ((v97.toInt + 1).toNat + 1)) N v97 (u3) hG F0 (by omega) (by omega) (by omega) g4 (by omega)
    · refine to_an (pc := 7) rw_189_7 rfl (s_gR (pc := 8) rw_189_8 hG rfl (v := 94) rfl (to_in (pc := 11) rw_189_11 rfl (to_c (pc := 12) rw_189_12 (x := (1 : Int32)) rfl rfl (s_zas (pc := 13) rw_189_13 hG rfl (n := 150) rfl (A := x2.toInt) rfl (by omega) (by omega) (B := 1) rfl (by omega) (fun M100 W99 => ?_)))))
      have hG101 := g_w hG W99 (A := 1) rfl (lo := 0) (hi := 1) rfl rfl (by omega) (by decide)
      have F102 := FR.w F0 W99 (show 94 ≤ 94 ∧ 94 ≤ 98 by decide)
      refine s_inc (pc := 14) rw_189_14 (ls2 := fun v => [.ref 77, .int n, .int v, u3]) rfl rfl (fun _ => rfl) (A := x2.toInt) (B := 1) rfl rfl (by omega) (fun v103 e104 => to_go (pc := 17) rw_189_17 ?_)
      have c_105 : M100.2.1 77 29 = (N.2.1 77 29) := (W_n W99 (fun z => absurd z.1 (by decide)) rfl)
      have t_106 : (M100.2.1 77 29).toInt = (N.2.1 77 29).toInt := congrArg Int32.toInt c_105
      have j_107 := (NJ_f (fun a i z => W_n W99 (by /-r94-/ omega) rfl) g4)
      exact ih M100 v103 (u3) hG101 F102 (by omega) (by omega) (by omega) j_107 (by omega)
set_option maxRecDepth 4000 in
set_option maxHeartbeats 0 in
theorem C_189 {X : mm_X} {d : Nat} {M : mm_M} {Q : Option Value → mm_M → Prop} {n : Int32} (hX : g_X X) (hd : 2 ≤ d) (hG : g_G M) (q1 : 0 ≤ n.toInt) (q2 : n.toInt ≤ 150) (q3 : n.toInt ≤ (M.2.1 77 29).toInt) (q4 : NJ M) (h : ∀ (M1 : mm_M), g_G M1 → FR md_kn M M1 → Q (none) M1) : mm_T X d 188 0 [.ref 77, .int n, .null, .null] [] M Q := by
  have F0 : FR md_kn M M := FR.rf
  have b_108 := g_b hG (a := 77) (i := 29) (lo := 0) (hi := 150) rfl rfl
  refine to_c (pc := 0) rw_189_0 (x := (0 : Int32)) rfl rfl (to_isn (pc := 1) rw_189_1 (ls2 := [.ref 77, .int n, .int (0 : Int32), .null]) rfl rfl ?_)
  have k_109 : (0 : Int32).toInt = 0 := rfl
  exact (T_189_4 (n := n) hX hd q1 q2 q3 q4 h ((150 - (0 : Int32).toInt).toNat + 1)) M (0 : Int32) (.null) hG F0 (by omega) (by omega) (by omega) q4 (by omega)
set_option maxRecDepth 4000 in
set_option maxHeartbeats 0 in
theorem C_191 {X : mm_X} {d : Nat} {M : mm_M} {Q : Option Value → mm_M → Prop} {w : Int32} {o : Int32} {m : Int32} {v : Int32} (hX : g_X X) (hd : 0 ≤ d) (hG : g_G M) (q1 : 0 ≤ w.toInt) (q2 : w.toInt ≤ 5) (q3 : 0 ≤ o.toInt) (q4 : o.toInt ≤ 149) (q5 : (M.2.1 77 29).toInt ≤ 149) (q6 : w.toInt = 0 → o.toInt ≤ 29 ∧ (0 ≤ m.toInt ∧ m.toInt ≤ 7) ∧ 0 ≤ v.toInt ∧ ((M.2.1 81 (m.toInt).toNat).toInt = 0 ∨ v.toInt ≤ 9)) (q7 : w.toInt = 1 → o.toInt ≤ 29 ∧ 0 ≤ m.toInt ∧ m.toInt ≤ 11) (q8 : w.toInt = 2 → o.toInt ≤ 29) (q9 : w.toInt = 3 → o.toInt ≤ 29) (q10 : w.toInt = 4 → o.toInt ≤ 11) (q11 : NJ M) (h : ∀ (r : Int32) (M1 : mm_M), g_G M1 → FR md_te M M1 → (r.toInt = (M.2.1 77 29).toInt) → ((M1.2.1 77 29).toInt = (M.2.1 77 29).toInt + 1) → NJ M1 → Q (some (.int r)) M1) : mm_T X d 190 0 [.ref 77, .int w, .int o, .int m, .int v] [] M Q := by
  have F0 : FR md_te M M := FR.rf
  have b_1 := g_b hG (a := 77) (i := 29) (lo := 0) (hi := 150) rfl rfl
  refine to_an (pc := 0) rw_191_0 rfl (s_gR (pc := 1) rw_191_1 hG rfl (v := 90) rfl (to_an (pc := 4) rw_191_4 rfl (tt_gI (pc := 5) rw_191_5 (g_o hG rfl) (v := (M.2.1 77 29)) rfl (to_in (pc := 8) rw_191_8 rfl (s_ias (pc := 9) rw_191_9 hG rfl (n := 150) rfl (A := (M.2.1 77 29).toInt) rfl (by omega) (by omega) (fun M3 W2 => ?_))))))
  have hG4 := g_w hG W2 (A := w.toInt) rfl (lo := 0) (hi := 5) rfl rfl (by omega) (by decide)
  have F5 := FR.w F0 W2 (show 90 = 77 ∧ ((M.2.1 77 29).toInt).toNat = 29 ∨ 90 ≤ 90 ∧ 90 ≤ 93 by omega)
  refine to_an (pc := 10) rw_191_10 rfl (s_gR (pc := 11) rw_191_11 hG4 rfl (v := 91) rfl (to_an (pc := 14) rw_191_14 rfl ?_))
  have c_6 : M3.2.1 77 29 = (M.2.1 77 29) := (W_n W2 (fun z => absurd z.1 (by decide)) rfl)
  refine tt_gI (pc := 15) rw_191_15 (g_o hG4 rfl) (v := (M.2.1 77 29)) c_6 (to_in (pc := 18) rw_191_18 rfl (s_ias (pc := 19) rw_191_19 hG4 rfl (n := 150) rfl (A := (M.2.1 77 29).toInt) rfl (by omega) (by omega) (fun M8 W7 => ?_)))
  have hG9 := g_w hG4 W7 (A := o.toInt) rfl (lo := 0) (hi := 149) rfl rfl (by omega) (by decide)
  have F10 := FR.w F5 W7 (show 91 = 77 ∧ ((M.2.1 77 29).toInt).toNat = 29 ∨ 90 ≤ 91 ∧ 91 ≤ 93 by omega)
  refine to_an (pc := 20) rw_191_20 rfl (s_gR (pc := 21) rw_191_21 hG9 rfl (v := 92) rfl (to_an (pc := 24) rw_191_24 rfl ?_))
  have c_11 : M8.2.1 77 29 = (M.2.1 77 29) := (W_n W7 (fun z => absurd z.1 (by decide)) c_6)
  refine tt_gI (pc := 25) rw_191_25 (g_o hG9 rfl) (v := (M.2.1 77 29)) c_11 (to_in (pc := 28) rw_191_28 rfl (s_ias (pc := 29) rw_191_29 hG9 rfl (n := 150) rfl (A := (M.2.1 77 29).toInt) rfl (by omega) (by omega) (fun M13 W12 => ?_)))
  have hG14 := g_wf hG9 W12 rfl rfl (by decide)
  have F15 := FR.w F10 W12 (show 92 = 77 ∧ ((M.2.1 77 29).toInt).toNat = 29 ∨ 90 ≤ 92 ∧ 92 ≤ 93 by omega)
  refine to_an (pc := 30) rw_191_30 rfl (s_gR (pc := 31) rw_191_31 hG14 rfl (v := 93) rfl (to_an (pc := 34) rw_191_34 rfl ?_))
  have c_16 : M13.2.1 77 29 = (M.2.1 77 29) := (W_n W12 (fun z => absurd z.1 (by decide)) c_11)
  refine tt_gI (pc := 35) rw_191_35 (g_o hG14 rfl) (v := (M.2.1 77 29)) c_16 (to_i (pc := 38) rw_191_38 rfl (s_ias (pc := 40) rw_191_40 hG14 rfl (n := 150) rfl (A := (M.2.1 77 29).toInt) rfl (by omega) (by omega) (fun M18 W17 => ?_)))
  have hG19 := g_wf hG14 W17 rfl rfl (by decide)
  have F20 := FR.w F15 W17 (show 93 = 77 ∧ ((M.2.1 77 29).toInt).toNat = 29 ∨ 90 ≤ 93 ∧ 93 ≤ 93 by omega)
  refine to_an (pc := 41) rw_191_41 rfl (to_dupr (pc := 42) rw_191_42 ?_)
  have c_21 : M18.2.1 77 29 = (M.2.1 77 29) := (W_n W17 (fun z => absurd z.1 (by decide)) c_16)
  refine tt_gI (pc := 43) rw_191_43 (g_o hG19 rfl) (v := (M.2.1 77 29)) c_21 (to_c (pc := 46) rw_191_46 (x := (1 : Int32)) rfl rfl (s_add (pc := 47) rw_191_47 (A := (M.2.1 77 29).toInt) (B := 1) rfl rfl (by omega) (fun v22 e23 => s_pI (pc := 48) rw_191_48 hG19 rfl (fun M25 W24 => ?_))))
  have hG26 := g_w hG19 W24 (A := v22.toInt) rfl (lo := 0) (hi := 150) rfl rfl (by omega) (by decide)
  have F27 := FR.w F20 W24 (show 77 = 77 ∧ 29 = 29 ∨ 90 ≤ 77 ∧ 77 ≤ 93 by decide)
  have j_28 := NJ_k (M1 := M25) (n := ((M.2.1 77 29).toInt).toNat) q11 (by omega) (by have z := congrArg Int32.toInt (W_e W24); omega) (fun a i z => (W_n W24 (by /-r77,29-/ omega) (W_n W17 (by /-r93-/ omega) (W_n W12 (by /-r92-/ omega) (W_n W7 (by /-r91-/ omega) (W_n W2 (by /-r90-/ omega) rfl)))))) (W_n W24 (by omega) (W_n W17 (by omega) (W_n W12 (by omega) (W_n W7 (by omega) (W_e W2))))) (W_n W24 (by omega) (W_n W17 (by omega) (W_n W12 (by omega) (W_e W7)))) (W_n W24 (by omega) (W_n W17 (by omega) (W_e W12))) (W_n W24 (by omega) (W_e W17)) q6 q7 q8 q9 q10
  refine to_an (pc := 51) rw_191_51 rfl ?_
  have c_29 : M25.2.1 77 29 = v22 := (W_e W24)
  refine tt_gI (pc := 52) rw_191_52 (g_o hG26 rfl) (v := v22) c_29 (to_c (pc := 55) rw_191_55 (x := (1 : Int32)) rfl rfl (s_sub (pc := 56) rw_191_56 (A := v22.toInt) (B := 1) rfl rfl (by omega) (fun v30 e31 => to_r0 (pc := 57) rw_191_57 ?_)))
  have t_32 : (M25.2.1 77 29).toInt = v22.toInt := congrArg Int32.toInt c_29
  exact h v30 M25 hG26 F27 (by omega) (by omega) j_28
set_option maxRecDepth 4000 in
set_option maxHeartbeats 0 in
theorem C_192 {X : mm_X} {d : Nat} {M : mm_M} {Q : Option Value → mm_M → Prop} {n : Int32} {w : Int32} (hX : g_X X) (hd : 3 ≤ d) (hG : g_G M) (q1 : NJ M) (h : ∀ (r : Int64) (M1 : mm_M), g_G M1 → FR md_k2 M M1 → Q (some (.long r)) M1) : mm_T X d 191 0 [.ref 77, .int n, .int w] [] M Q := by
  have F0 : FR md_k2 M M := FR.rf
  refine to_an (pc := 0) rw_192_0 rfl (to_c (pc := 1) rw_192_1 (x := (0 : Int32)) rfl rfl (s_pI (pc := 2) rw_192_2 hG rfl (fun M2 W1 => ?_)))
  have hG3 := g_wf hG W1 rfl rfl (by decide)
  have F4 := FR.w F0 W1 (show 77 = 77 ∧ 2 = 2 ∨ 94 ≤ 77 ∧ 77 ≤ 98 by decide)
  refine to_an (pc := 5) rw_192_5 rfl (to_in (pc := 6) rw_192_6 rfl (s_v (pc := 7) rw_192_7 (dp0 hd (by decide)) (ls0 := [.ref 77, .int n]) rfl (Nat.le_of_ble_eq_true rfl) (Nat.le_of_ble_eq_true rfl) rfl (to_rc rfl rfl rfl (g_o hG3 rfl)) rfl (to_in (pc := 0) rw_186_0 rfl (b_ilt (pc := 1) rw_186_1 (A := n.toInt) rfl (fun h5 => ?_) (fun h5 => ?_)))))
  · refine to_c (pc := 16) rw_186_16 (x := (0 : Int32)) rfl rfl (s_r1 (pc := 17) rw_186_17 (A := 0) rfl (by decide) (b_ieq_t (pc := 10) rw_192_10 (A := 0) rfl (by decide) (s_cl (pc := 21) rw_192_21 rfl (fun l6 => to_rl (pc := 22) rw_192_22 ?_))))
    exact h l6 M2 hG3 F4 
  · refine to_in (pc := 4) rw_186_4 rfl (to_an (pc := 5) rw_186_5 rfl ?_)
    have c_7 : M2.2.1 77 29 = (M.2.1 77 29) := (W_n W1 (by decide) rfl)
    have b_8 := g_b hG (a := 77) (i := 29) (lo := 0) (hi := 150) rfl rfl
    refine tt_gI (pc := 6) rw_186_6 (g_o hG3 rfl) (v := (M.2.1 77 29)) c_7 (b_cgt (pc := 9) rw_186_9 (A := n.toInt) (B := (M.2.1 77 29).toInt) rfl rfl (fun h9 => ?_) (fun h9 => ?_))
    · refine to_c (pc := 16) rw_186_16 (x := (0 : Int32)) rfl rfl (s_r1 (pc := 17) rw_186_17 (A := 0) rfl (by decide) (b_ieq_t (pc := 10) rw_192_10 (A := 0) rfl (by decide) (s_cl (pc := 21) rw_192_21 rfl (fun l10 => to_rl (pc := 22) rw_192_22 ?_))))
      exact h l10 M2 hG3 F4 
    · refine to_c (pc := 12) rw_186_12 (x := (1 : Int32)) rfl rfl (to_go (pc := 13) rw_186_13 (s_r1 (pc := 17) rw_186_17 (A := 1) rfl (by decide) (b_ieq_f (pc := 10) rw_192_10 (A := 1) rfl (by decide) (to_an (pc := 13) rw_192_13 rfl (to_in (pc := 14) rw_192_14 rfl (s_v (pc := 15) rw_192_15 (dp0 hd (by decide)) (ls0 := [.ref 77, .int w]) rfl (Nat.le_of_ble_eq_true rfl) (Nat.le_of_ble_eq_true rfl) rfl (to_rc rfl rfl rfl (g_o hG3 rfl)) rfl (to_in (pc := 0) rw_180_0 rfl (b_ilt (pc := 1) rw_180_1 (A := w.toInt) rfl (fun h11 => ?_) (fun h11 => ?_)))))))))
      · refine to_c (pc := 16) rw_180_16 (x := (0 : Int32)) rfl rfl (s_r1 (pc := 17) rw_180_17 (A := 0) rfl (by decide) (b_ine_f (pc := 18) rw_192_18 (A := 0) rfl (by decide) (s_cl (pc := 21) rw_192_21 rfl (fun l12 => to_rl (pc := 22) rw_192_22 ?_))))
        exact h l12 M2 hG3 F4 
      · refine to_in (pc := 4) rw_180_4 rfl (to_an (pc := 5) rw_180_5 rfl ?_)
        have c_13 : M2.2.1 77 13 = (M.2.1 77 13) := (W_n W1 (by decide) rfl)
        have b_14 := g_b hG (a := 77) (i := 13) (lo := 0) (hi := 12) rfl rfl
        refine tt_gI (pc := 6) rw_180_6 (g_o hG3 rfl) (v := (M.2.1 77 13)) c_13 (b_cge (pc := 9) rw_180_9 (A := w.toInt) (B := (M.2.1 77 13).toInt) rfl rfl (fun h15 => ?_) (fun h15 => ?_))
        · refine to_c (pc := 16) rw_180_16 (x := (0 : Int32)) rfl rfl (s_r1 (pc := 17) rw_180_17 (A := 0) rfl (by decide) (b_ine_f (pc := 18) rw_192_18 (A := 0) rfl (by decide) (s_cl (pc := 21) rw_192_21 rfl (fun l16 => to_rl (pc := 22) rw_192_22 ?_))))
          exact h l16 M2 hG3 F4 
        · refine to_c (pc := 12) rw_180_12 (x := (1 : Int32)) rfl rfl (to_go (pc := 13) rw_180_13 (s_r1 (pc := 17) rw_180_17 (A := 1) rfl (by decide) (b_ine_t (pc := 18) rw_192_18 (A := 1) rfl (by decide) (to_an (pc := 23) rw_192_23 rfl (to_in (pc := 24) rw_192_24 rfl (s_v (pc := 25) rw_192_25 (dp0 hd (by decide)) (ls0 := [.ref 77, .int n, .null, .null]) rfl (Nat.le_of_ble_eq_true rfl) (Nat.le_of_ble_eq_true rfl) rfl (to_rc rfl rfl rfl (g_o hG3 rfl)) rfl ?_))))))
          have t_17 : (M2.2.1 77 29).toInt = (M.2.1 77 29).toInt := congrArg Int32.toInt c_7
          have j_18 := (NJ_f (fun a i z => W_n W1 (by /-r77,2-/ omega) rfl) q1)
          refine C_189 hX (dp1 hd (by decide)) hG3 (by omega) (by omega) (by omega) j_18 (n := n) (fun M21 hG20 F19 => ?_)
          have F22 := FR.c F4 F19 tg_263
          refine to_an (pc := 28) rw_192_28 rfl (s_gR (pc := 29) rw_192_29 hG20 rfl (v := 95) rfl (to_in (pc := 32) rw_192_32 rfl (s_lal (pc := 33) rw_192_33 hG20 rfl (n := 12) rfl (A := w.toInt) rfl (by omega) (by omega) (fun l23 => to_rl (pc := 34) rw_192_34 ?_))))
          exact h l23 M21 hG20 F22 
set_option maxRecDepth 4000 in
set_option maxHeartbeats 0 in
theorem C_194 {X : mm_X} {d : Nat} {M : mm_M} {Q : Option Value → mm_M → Prop} {c : Int32} {f : Int32} {v : Int32} (hX : g_X X) (hd : 3 ≤ d) (hG : g_G M) (q1 : NJ M) (q2 : FA M) (h : ∀ (r : Int32) (M1 : mm_M), g_G M1 → FR md_t2 M M1 → NJ M1 → Q (some (.int r)) M1) : mm_T X d 193 0 [.ref 77, .int c, .int f, .int v] [] M Q := by
  have F0 : FR md_t2 M M := FR.rf
  refine to_an (pc := 0) rw_194_0 rfl (to_c (pc := 1) rw_194_1 (x := (0 : Int32)) rfl rfl (s_pI (pc := 2) rw_194_2 hG rfl (fun M2 W1 => ?_)))
  have hG3 := g_wf hG W1 rfl rfl (by decide)
  have F4 := FR.w F0 W1 (show 77 = 77 ∧ (2 = 2 ∨ 2 = 29) ∨ 90 ≤ 77 ∧ 77 ≤ 93 by decide)
  refine to_an (pc := 5) rw_194_5 rfl ?_
  have c_5 : M2.2.1 77 29 = (M.2.1 77 29) := (W_n W1 (by decide) rfl)
  have b_6 := g_b hG (a := 77) (i := 29) (lo := 0) (hi := 150) rfl rfl
  refine tt_gI (pc := 6) rw_194_6 (g_o hG3 rfl) (v := (M.2.1 77 29)) c_5 (to_c (pc := 9) rw_194_9 (x := (150 : Int32)) rfl rfl (b_ceq (pc := 12) rw_194_12 (A := (M.2.1 77 29).toInt) (B := 150) rfl rfl (fun h7 => ?_) (fun h7 => ?_)))
  · refine to_c (pc := 32) rw_194_32 (x := (-1 : Int32)) rfl rfl (to_go (pc := 33) rw_194_33 (to_r0 (pc := 44) rw_194_44 ?_))
    have k_8 : (-1 : Int32).toInt = -1 := rfl
    have j_9 := (NJ_f (fun a i z => W_n W1 (by /-r77,2-/ omega) rfl) q1)
    exact h (-1 : Int32) M2 hG3 F4 j_9
  · refine to_an (pc := 15) rw_194_15 rfl (to_in (pc := 16) rw_194_16 rfl (s_v (pc := 17) rw_194_17 (dp0 hd (by decide)) (ls0 := [.ref 77, .int c]) rfl (Nat.le_of_ble_eq_true rfl) (Nat.le_of_ble_eq_true rfl) rfl (to_rc rfl rfl rfl (g_o hG3 rfl)) rfl (to_in (pc := 0) rw_187_0 rfl (b_ilt (pc := 1) rw_187_1 (A := c.toInt) rfl (fun h10 => ?_) (fun h10 => ?_)))))
    · refine to_c (pc := 16) rw_187_16 (x := (0 : Int32)) rfl rfl (s_r1 (pc := 17) rw_187_17 (A := 0) rfl (by decide) (b_ieq_t (pc := 20) rw_194_20 (A := 0) rfl (by decide) (to_c (pc := 32) rw_194_32 (x := (-1 : Int32)) rfl rfl (to_go (pc := 33) rw_194_33 (to_r0 (pc := 44) rw_194_44 ?_)))))
      have k_11 : (-1 : Int32).toInt = -1 := rfl
      have j_12 := (NJ_f (fun a i z => W_n W1 (by /-r77,2-/ omega) rfl) q1)
      exact h (-1 : Int32) M2 hG3 F4 j_12
    · refine to_in (pc := 4) rw_187_4 rfl (to_an (pc := 5) rw_187_5 rfl ?_)
      have c_13 : M2.2.1 77 28 = (M.2.1 77 28) := (W_n W1 (by decide) rfl)
      have b_14 := g_b hG (a := 77) (i := 28) (lo := 0) (hi := 30) rfl rfl
      refine tt_gI (pc := 6) rw_187_6 (g_o hG3 rfl) (v := (M.2.1 77 28)) c_13 (b_cge (pc := 9) rw_187_9 (A := c.toInt) (B := (M.2.1 77 28).toInt) rfl rfl (fun h15 => ?_) (fun h15 => ?_))
      · refine to_c (pc := 16) rw_187_16 (x := (0 : Int32)) rfl rfl (s_r1 (pc := 17) rw_187_17 (A := 0) rfl (by decide) (b_ieq_t (pc := 20) rw_194_20 (A := 0) rfl (by decide) (to_c (pc := 32) rw_194_32 (x := (-1 : Int32)) rfl rfl (to_go (pc := 33) rw_194_33 (to_r0 (pc := 44) rw_194_44 ?_)))))
        have k_16 : (-1 : Int32).toInt = -1 := rfl
        have j_17 := (NJ_f (fun a i z => W_n W1 (by /-r77,2-/ omega) rfl) q1)
        exact h (-1 : Int32) M2 hG3 F4 j_17
      · refine to_c (pc := 12) rw_187_12 (x := (1 : Int32)) rfl rfl (to_go (pc := 13) rw_187_13 (s_r1 (pc := 17) rw_187_17 (A := 1) rfl (by decide) (b_ieq_f (pc := 20) rw_194_20 (A := 1) rfl (by decide) (to_an (pc := 23) rw_194_23 rfl (to_in (pc := 24) rw_194_24 rfl (to_in (pc := 25) rw_194_25 rfl (s_v (pc := 26) rw_194_26 (dp0 hd (by decide)) (ls0 := [.ref 77, .int f, .int v]) rfl (Nat.le_of_ble_eq_true rfl) (Nat.le_of_ble_eq_true rfl) rfl (to_rc rfl rfl rfl (g_o hG3 rfl)) rfl (to_an (pc := 0) rw_184_0 rfl (to_in (pc := 1) rw_184_1 rfl (s_v (pc := 2) rw_184_2 (dp1 hd (by decide)) (ls0 := [.ref 77, .int f]) rfl (Nat.le_of_ble_eq_true rfl) (Nat.le_of_ble_eq_true rfl) rfl (to_rc rfl rfl rfl (g_o hG3 rfl)) rfl (to_an (pc := 0) rw_179_0 rfl ?_)))))))))))
        refine to_in (pc := 1) rw_179_1 rfl (s_v (pc := 2) rw_179_2 (dp2 hd (by decide)) (ls0 := [.ref 77, .int f]) rfl (Nat.le_of_ble_eq_true rfl) (Nat.le_of_ble_eq_true rfl) rfl (to_rc rfl rfl rfl (g_o hG3 rfl)) rfl (to_in (pc := 0) rw_178_0 rfl (b_ilt (pc := 1) rw_178_1 (A := f.toInt) rfl (fun h18 => ?_) (fun h18 => ?_))))
        · refine to_c (pc := 16) rw_178_16 (x := (0 : Int32)) rfl rfl (s_r1 (pc := 17) rw_178_17 (A := 0) rfl (by decide) (b_ieq_t (pc := 5) rw_179_5 (A := 0) rfl (by decide) (to_c (pc := 22) rw_179_22 (x := (0 : Int32)) rfl rfl (s_r1 (pc := 23) rw_179_23 (A := 0) rfl (by decide) (b_ieq_t (pc := 5) rw_184_5 (A := 0) rfl (by decide) (to_c (pc := 26) rw_184_26 (x := (0 : Int32)) rfl rfl (s_r1 (pc := 27) rw_184_27 (A := 0) rfl (by decide) (b_ine_f (pc := 29) rw_194_29 (A := 0) rfl (by decide) (to_c (pc := 32) rw_194_32 (x := (-1 : Int32)) rfl rfl (to_go (pc := 33) rw_194_33 (to_r0 (pc := 44) rw_194_44 ?_)))))))))))
          have k_19 : (-1 : Int32).toInt = -1 := rfl
          have j_20 := (NJ_f (fun a i z => W_n W1 (by /-r77,2-/ omega) rfl) q1)
          exact h (-1 : Int32) M2 hG3 F4 j_20
        · refine to_in (pc := 4) rw_178_4 rfl (to_an (pc := 5) rw_178_5 rfl ?_)
          have c_21 : M2.2.1 77 12 = (M.2.1 77 12) := (W_n W1 (by decide) rfl)
          have b_22 := g_b hG (a := 77) (i := 12) (lo := 0) (hi := 8) rfl rfl
          refine tt_gI (pc := 6) rw_178_6 (g_o hG3 rfl) (v := (M.2.1 77 12)) c_21 (b_cge (pc := 9) rw_178_9 (A := f.toInt) (B := (M.2.1 77 12).toInt) rfl rfl (fun h23 => ?_) (fun h23 => ?_))
          · refine to_c (pc := 16) rw_178_16 (x := (0 : Int32)) rfl rfl (s_r1 (pc := 17) rw_178_17 (A := 0) rfl (by decide) (b_ieq_t (pc := 5) rw_179_5 (A := 0) rfl (by decide) (to_c (pc := 22) rw_179_22 (x := (0 : Int32)) rfl rfl (s_r1 (pc := 23) rw_179_23 (A := 0) rfl (by decide) (b_ieq_t (pc := 5) rw_184_5 (A := 0) rfl (by decide) (to_c (pc := 26) rw_184_26 (x := (0 : Int32)) rfl rfl (s_r1 (pc := 27) rw_184_27 (A := 0) rfl (by decide) (b_ine_f (pc := 29) rw_194_29 (A := 0) rfl (by decide) (to_c (pc := 32) rw_194_32 (x := (-1 : Int32)) rfl rfl (to_go (pc := 33) rw_194_33 (to_r0 (pc := 44) rw_194_44 ?_)))))))))))
            have k_24 : (-1 : Int32).toInt = -1 := rfl
            have j_25 := (NJ_f (fun a i z => W_n W1 (by /-r77,2-/ omega) rfl) q1)
            exact h (-1 : Int32) M2 hG3 F4 j_25
          · refine to_c (pc := 12) rw_178_12 (x := (1 : Int32)) rfl rfl (to_go (pc := 13) rw_178_13 (s_r1 (pc := 17) rw_178_17 (A := 1) rfl (by decide) (b_ieq_f (pc := 5) rw_179_5 (A := 1) rfl (by decide) (to_an (pc := 8) rw_179_8 rfl (s_gR (pc := 9) rw_179_9 hG3 rfl (v := 81) rfl (to_in (pc := 12) rw_179_12 rfl (s_ial (pc := 13) rw_179_13 hG3 rfl (n := 16) rfl rfl (A := f.toInt) rfl (by omega) (by omega) (lo := 0) (hi := 3) rfl rfl (fun v26 w_27 _ _ => ?_))))))))
            have t_28 := congrArg Int32.toInt w_27
            have j_30 := (FA_f (fun a i z => W_n W1 (tg_94 a i z) rfl) q2)
            have j_29 := FA_u j_30 (f.toInt).toNat
            refine to_c (pc := 14) rw_179_14 (x := (3 : Int32)) rfl rfl (b_ceq (pc := 15) rw_179_15 (A := v26.toInt) (B := 3) rfl rfl (fun h31 => ?_) (fun h31 => ?_))
            · refine to_c (pc := 22) rw_179_22 (x := (0 : Int32)) rfl rfl (s_r1 (pc := 23) rw_179_23 (A := 0) rfl (by decide) (b_ieq_t (pc := 5) rw_184_5 (A := 0) rfl (by decide) (to_c (pc := 26) rw_184_26 (x := (0 : Int32)) rfl rfl (s_r1 (pc := 27) rw_184_27 (A := 0) rfl (by decide) (b_ine_f (pc := 29) rw_194_29 (A := 0) rfl (by decide) (to_c (pc := 32) rw_194_32 (x := (-1 : Int32)) rfl rfl (to_go (pc := 33) rw_194_33 (to_r0 (pc := 44) rw_194_44 ?_))))))))
              have k_32 : (-1 : Int32).toInt = -1 := rfl
              have j_33 := (NJ_f (fun a i z => W_n W1 (by /-r77,2-/ omega) rfl) q1)
              exact h (-1 : Int32) M2 hG3 F4 j_33
            · refine to_c (pc := 18) rw_179_18 (x := (1 : Int32)) rfl rfl (to_go (pc := 19) rw_179_19 (s_r1 (pc := 23) rw_179_23 (A := 1) rfl (by decide) (b_ieq_f (pc := 5) rw_184_5 (A := 1) rfl (by decide) (to_in (pc := 8) rw_184_8 rfl (b_ilt (pc := 9) rw_184_9 (A := v.toInt) rfl (fun h34 => ?_) (fun h34 => ?_))))))
              · refine to_c (pc := 26) rw_184_26 (x := (0 : Int32)) rfl rfl (s_r1 (pc := 27) rw_184_27 (A := 0) rfl (by decide) (b_ine_f (pc := 29) rw_194_29 (A := 0) rfl (by decide) (to_c (pc := 32) rw_194_32 (x := (-1 : Int32)) rfl rfl (to_go (pc := 33) rw_194_33 (to_r0 (pc := 44) rw_194_44 ?_)))))
                have k_35 : (-1 : Int32).toInt = -1 := rfl
                have j_36 := (NJ_f (fun a i z => W_n W1 (by /-r77,2-/ omega) rfl) q1)
                exact h (-1 : Int32) M2 hG3 F4 j_36
              · refine to_in (pc := 12) rw_184_12 rfl (to_an (pc := 13) rw_184_13 rfl (s_gR (pc := 14) rw_184_14 hG3 rfl (v := 84) rfl (to_in (pc := 17) rw_184_17 rfl (s_ial (pc := 18) rw_184_18 hG3 rfl (n := 16) rfl rfl (A := f.toInt) rfl (by omega) (by omega) (lo := 0) (hi := 24) rfl rfl (fun v37 w_38 _ _ => ?_)))))
                have t_39 := congrArg Int32.toInt w_38
                refine b_cge (pc := 19) rw_184_19 (A := v.toInt) (B := v37.toInt) rfl rfl (fun h40 => ?_) (fun h40 => ?_)
                · refine to_c (pc := 26) rw_184_26 (x := (0 : Int32)) rfl rfl (s_r1 (pc := 27) rw_184_27 (A := 0) rfl (by decide) (b_ine_f (pc := 29) rw_194_29 (A := 0) rfl (by decide) (to_c (pc := 32) rw_194_32 (x := (-1 : Int32)) rfl rfl (to_go (pc := 33) rw_194_33 (to_r0 (pc := 44) rw_194_44 ?_)))))
                  have k_41 : (-1 : Int32).toInt = -1 := rfl
                  have j_42 := (NJ_f (fun a i z => W_n W1 (by /-r77,2-/ omega) rfl) q1)
                  exact h (-1 : Int32) M2 hG3 F4 j_42
                · refine to_c (pc := 22) rw_184_22 (x := (1 : Int32)) rfl rfl (to_go (pc := 23) rw_184_23 (s_r1 (pc := 27) rw_184_27 (A := 1) rfl (by decide) (b_ine_t (pc := 29) rw_194_29 (A := 1) rfl (by decide) (to_an (pc := 36) rw_194_36 rfl (to_c (pc := 37) rw_194_37 (x := (0 : Int32)) rfl rfl (to_in (pc := 38) rw_194_38 rfl (to_in (pc := 39) rw_194_39 rfl (to_in (pc := 40) rw_194_40 rfl (s_v (pc := 41) rw_194_41 (dp0 hd (by decide)) (ls0 := [.ref 77, .int (0 : Int32), .int c, .int f, .int v]) rfl (Nat.le_of_ble_eq_true rfl) (Nat.le_of_ble_eq_true rfl) rfl (to_rc rfl rfl rfl (g_o hG3 rfl)) rfl ?_)))))))))
                  have k_43 : (0 : Int32).toInt = 0 := rfl
                  have t_44 : (M2.2.1 77 29).toInt = (M.2.1 77 29).toInt := congrArg Int32.toInt c_5
                  have j_45 := (NJ_f (fun a i z => W_n W1 (by /-r77,2-/ omega) rfl) q1)
                  refine C_191 hX (dp1 hd (by decide)) hG3 (by omega) (by omega) (by omega) (by omega) (by omega) (by omega) (by omega) (by omega) (by omega) (by omega) j_45 (w := (0 : Int32)) (o := c) (m := f) (v := v) (fun r46 M52 hG48 F47 p_49 p_50 p_51 => ?_)
                  have F53 := FR.c F4 F47 tg_105
                  have b_54 := g_b hG48 (a := 77) (i := 29) (lo := 0) (hi := 150) rfl rfl
                  refine to_r0 (pc := 44) rw_194_44 ?_
                  exact h r46 M52 hG48 F53 p_51
set_option maxRecDepth 4000 in
set_option maxHeartbeats 0 in
theorem C_195 {X : mm_X} {d : Nat} {M : mm_M} {Q : Option Value → mm_M → Prop} {c : Int32} {w : Int32} (hX : g_X X) (hd : 1 ≤ d) (hG : g_G M) (q1 : NJ M) (h : ∀ (r : Int32) (M1 : mm_M), g_G M1 → FR md_t2 M M1 → NJ M1 → Q (some (.int r)) M1) : mm_T X d 194 0 [.ref 77, .int c, .int w] [] M Q := by
  have F0 : FR md_t2 M M := FR.rf
  refine to_an (pc := 0) rw_195_0 rfl (to_c (pc := 1) rw_195_1 (x := (0 : Int32)) rfl rfl (s_pI (pc := 2) rw_195_2 hG rfl (fun M2 W1 => ?_)))
  have hG3 := g_wf hG W1 rfl rfl (by decide)
  have F4 := FR.w F0 W1 (show 77 = 77 ∧ (2 = 2 ∨ 2 = 29) ∨ 90 ≤ 77 ∧ 77 ≤ 93 by decide)
  refine to_an (pc := 5) rw_195_5 rfl ?_
  have c_5 : M2.2.1 77 29 = (M.2.1 77 29) := (W_n W1 (by decide) rfl)
  have b_6 := g_b hG (a := 77) (i := 29) (lo := 0) (hi := 150) rfl rfl
  refine tt_gI (pc := 6) rw_195_6 (g_o hG3 rfl) (v := (M.2.1 77 29)) c_5 (to_c (pc := 9) rw_195_9 (x := (150 : Int32)) rfl rfl (b_ceq (pc := 12) rw_195_12 (A := (M.2.1 77 29).toInt) (B := 150) rfl rfl (fun h7 => ?_) (fun h7 => ?_)))
  · refine to_c (pc := 31) rw_195_31 (x := (-1 : Int32)) rfl rfl (to_go (pc := 32) rw_195_32 (to_r0 (pc := 43) rw_195_43 ?_))
    have k_8 : (-1 : Int32).toInt = -1 := rfl
    have j_9 := (NJ_f (fun a i z => W_n W1 (by /-r77,2-/ omega) rfl) q1)
    exact h (-1 : Int32) M2 hG3 F4 j_9
  · refine to_an (pc := 15) rw_195_15 rfl (to_in (pc := 16) rw_195_16 rfl (s_v (pc := 17) rw_195_17 (dp0 hd (by decide)) (ls0 := [.ref 77, .int c]) rfl (Nat.le_of_ble_eq_true rfl) (Nat.le_of_ble_eq_true rfl) rfl (to_rc rfl rfl rfl (g_o hG3 rfl)) rfl (to_in (pc := 0) rw_187_0 rfl (b_ilt (pc := 1) rw_187_1 (A := c.toInt) rfl (fun h10 => ?_) (fun h10 => ?_)))))
    · refine to_c (pc := 16) rw_187_16 (x := (0 : Int32)) rfl rfl (s_r1 (pc := 17) rw_187_17 (A := 0) rfl (by decide) (b_ieq_t (pc := 20) rw_195_20 (A := 0) rfl (by decide) (to_c (pc := 31) rw_195_31 (x := (-1 : Int32)) rfl rfl (to_go (pc := 32) rw_195_32 (to_r0 (pc := 43) rw_195_43 ?_)))))
      have k_11 : (-1 : Int32).toInt = -1 := rfl
      have j_12 := (NJ_f (fun a i z => W_n W1 (by /-r77,2-/ omega) rfl) q1)
      exact h (-1 : Int32) M2 hG3 F4 j_12
    · refine to_in (pc := 4) rw_187_4 rfl (to_an (pc := 5) rw_187_5 rfl ?_)
      have c_13 : M2.2.1 77 28 = (M.2.1 77 28) := (W_n W1 (by decide) rfl)
      have b_14 := g_b hG (a := 77) (i := 28) (lo := 0) (hi := 30) rfl rfl
      refine tt_gI (pc := 6) rw_187_6 (g_o hG3 rfl) (v := (M.2.1 77 28)) c_13 (b_cge (pc := 9) rw_187_9 (A := c.toInt) (B := (M.2.1 77 28).toInt) rfl rfl (fun h15 => ?_) (fun h15 => ?_))
      · refine to_c (pc := 16) rw_187_16 (x := (0 : Int32)) rfl rfl (s_r1 (pc := 17) rw_187_17 (A := 0) rfl (by decide) (b_ieq_t (pc := 20) rw_195_20 (A := 0) rfl (by decide) (to_c (pc := 31) rw_195_31 (x := (-1 : Int32)) rfl rfl (to_go (pc := 32) rw_195_32 (to_r0 (pc := 43) rw_195_43 ?_)))))
        have k_16 : (-1 : Int32).toInt = -1 := rfl
        have j_17 := (NJ_f (fun a i z => W_n W1 (by /-r77,2-/ omega) rfl) q1)
        exact h (-1 : Int32) M2 hG3 F4 j_17
      · refine to_c (pc := 12) rw_187_12 (x := (1 : Int32)) rfl rfl (to_go (pc := 13) rw_187_13 (s_r1 (pc := 17) rw_187_17 (A := 1) rfl (by decide) (b_ieq_f (pc := 20) rw_195_20 (A := 1) rfl (by decide) (to_an (pc := 23) rw_195_23 rfl (to_in (pc := 24) rw_195_24 rfl (s_v (pc := 25) rw_195_25 (dp0 hd (by decide)) (ls0 := [.ref 77, .int w]) rfl (Nat.le_of_ble_eq_true rfl) (Nat.le_of_ble_eq_true rfl) rfl (to_rc rfl rfl rfl (g_o hG3 rfl)) rfl (to_in (pc := 0) rw_180_0 rfl (b_ilt (pc := 1) rw_180_1 (A := w.toInt) rfl (fun h18 => ?_) (fun h18 => ?_)))))))))
        · refine to_c (pc := 16) rw_180_16 (x := (0 : Int32)) rfl rfl (s_r1 (pc := 17) rw_180_17 (A := 0) rfl (by decide) (b_ine_f (pc := 28) rw_195_28 (A := 0) rfl (by decide) (to_c (pc := 31) rw_195_31 (x := (-1 : Int32)) rfl rfl (to_go (pc := 32) rw_195_32 (to_r0 (pc := 43) rw_195_43 ?_)))))
          have k_19 : (-1 : Int32).toInt = -1 := rfl
          have j_20 := (NJ_f (fun a i z => W_n W1 (by /-r77,2-/ omega) rfl) q1)
          exact h (-1 : Int32) M2 hG3 F4 j_20
        · refine to_in (pc := 4) rw_180_4 rfl (to_an (pc := 5) rw_180_5 rfl ?_)
          have c_21 : M2.2.1 77 13 = (M.2.1 77 13) := (W_n W1 (by decide) rfl)
          have b_22 := g_b hG (a := 77) (i := 13) (lo := 0) (hi := 12) rfl rfl
          refine tt_gI (pc := 6) rw_180_6 (g_o hG3 rfl) (v := (M.2.1 77 13)) c_21 (b_cge (pc := 9) rw_180_9 (A := w.toInt) (B := (M.2.1 77 13).toInt) rfl rfl (fun h23 => ?_) (fun h23 => ?_))
          · refine to_c (pc := 16) rw_180_16 (x := (0 : Int32)) rfl rfl (s_r1 (pc := 17) rw_180_17 (A := 0) rfl (by decide) (b_ine_f (pc := 28) rw_195_28 (A := 0) rfl (by decide) (to_c (pc := 31) rw_195_31 (x := (-1 : Int32)) rfl rfl (to_go (pc := 32) rw_195_32 (to_r0 (pc := 43) rw_195_43 ?_)))))
            have k_24 : (-1 : Int32).toInt = -1 := rfl
            have j_25 := (NJ_f (fun a i z => W_n W1 (by /-r77,2-/ omega) rfl) q1)
            exact h (-1 : Int32) M2 hG3 F4 j_25
          · refine to_c (pc := 12) rw_180_12 (x := (1 : Int32)) rfl rfl (to_go (pc := 13) rw_180_13 (s_r1 (pc := 17) rw_180_17 (A := 1) rfl (by decide) (b_ine_t (pc := 28) rw_195_28 (A := 1) rfl (by decide) (to_an (pc := 35) rw_195_35 rfl (to_c (pc := 36) rw_195_36 (x := (1 : Int32)) rfl rfl (to_in (pc := 37) rw_195_37 rfl (to_in (pc := 38) rw_195_38 rfl (to_c (pc := 39) rw_195_39 (x := (0 : Int32)) rfl rfl (s_v (pc := 40) rw_195_40 (dp0 hd (by decide)) (ls0 := [.ref 77, .int (1 : Int32), .int c, .int w, .int (0 : Int32)]) rfl (Nat.le_of_ble_eq_true rfl) (Nat.le_of_ble_eq_true rfl) rfl (to_rc rfl rfl rfl (g_o hG3 rfl)) rfl ?_)))))))))
            have k_26 : (1 : Int32).toInt = 1 := rfl
            have k_27 : (0 : Int32).toInt = 0 := rfl
            have t_28 : (M2.2.1 77 29).toInt = (M.2.1 77 29).toInt := congrArg Int32.toInt c_5
            have j_29 := (NJ_f (fun a i z => W_n W1 (by /-r77,2-/ omega) rfl) q1)
            refine C_191 hX (dp1 hd (by decide)) hG3 (by omega) (by omega) (by omega) (by omega) (by omega) (by omega) (by omega) (by omega) (by omega) (by omega) j_29 (w := (1 : Int32)) (o := c) (m := w) (v := (0 : Int32)) (fun r30 M36 hG32 F31 p_33 p_34 p_35 => ?_)
            have F37 := FR.c F4 F31 tg_105
            have b_38 := g_b hG32 (a := 77) (i := 29) (lo := 0) (hi := 150) rfl rfl
            refine to_r0 (pc := 43) rw_195_43 ?_
            exact h r30 M36 hG32 F37 p_35
set_option maxRecDepth 4000 in
set_option maxHeartbeats 0 in
theorem C_196 {X : mm_X} {d : Nat} {M : mm_M} {Q : Option Value → mm_M → Prop} {c : Int32} {e : Int32} {m : Int32} (hX : g_X X) (hd : 1 ≤ d) (hG : g_G M) (q1 : 0 ≤ m.toInt) (q2 : m.toInt ≤ 1) (q3 : NJ M) (h : ∀ (r : Int32) (M1 : mm_M), g_G M1 → FR md_t2 M M1 → NJ M1 → Q (some (.int r)) M1) : mm_T X d 195 0 [.ref 77, .int c, .int e, .int m] [] M Q := by
  have F0 : FR md_t2 M M := FR.rf
  refine to_an (pc := 0) rw_196_0 rfl (to_c (pc := 1) rw_196_1 (x := (0 : Int32)) rfl rfl (s_pI (pc := 2) rw_196_2 hG rfl (fun M2 W1 => ?_)))
  have hG3 := g_wf hG W1 rfl rfl (by decide)
  have F4 := FR.w F0 W1 (show 77 = 77 ∧ (2 = 2 ∨ 2 = 29) ∨ 90 ≤ 77 ∧ 77 ≤ 93 by decide)
  refine to_an (pc := 5) rw_196_5 rfl ?_
  have c_5 : M2.2.1 77 29 = (M.2.1 77 29) := (W_n W1 (by decide) rfl)
  have b_6 := g_b hG (a := 77) (i := 29) (lo := 0) (hi := 150) rfl rfl
  refine tt_gI (pc := 6) rw_196_6 (g_o hG3 rfl) (v := (M.2.1 77 29)) c_5 (to_c (pc := 9) rw_196_9 (x := (150 : Int32)) rfl rfl (b_ceq (pc := 12) rw_196_12 (A := (M.2.1 77 29).toInt) (B := 150) rfl rfl (fun h7 => ?_) (fun h7 => ?_)))
  · refine to_c (pc := 35) rw_196_35 (x := (-1 : Int32)) rfl rfl (to_go (pc := 36) rw_196_36 (to_r0 (pc := 55) rw_196_55 ?_))
    have k_8 : (-1 : Int32).toInt = -1 := rfl
    have j_9 := (NJ_f (fun a i z => W_n W1 (by /-r77,2-/ omega) rfl) q3)
    exact h (-1 : Int32) M2 hG3 F4 j_9
  · refine to_an (pc := 15) rw_196_15 rfl (to_in (pc := 16) rw_196_16 rfl (s_v (pc := 17) rw_196_17 (dp0 hd (by decide)) (ls0 := [.ref 77, .int c]) rfl (Nat.le_of_ble_eq_true rfl) (Nat.le_of_ble_eq_true rfl) rfl (to_rc rfl rfl rfl (g_o hG3 rfl)) rfl (to_in (pc := 0) rw_187_0 rfl (b_ilt (pc := 1) rw_187_1 (A := c.toInt) rfl (fun h10 => ?_) (fun h10 => ?_)))))
    · refine to_c (pc := 16) rw_187_16 (x := (0 : Int32)) rfl rfl (s_r1 (pc := 17) rw_187_17 (A := 0) rfl (by decide) (b_ieq_t (pc := 20) rw_196_20 (A := 0) rfl (by decide) (to_c (pc := 35) rw_196_35 (x := (-1 : Int32)) rfl rfl (to_go (pc := 36) rw_196_36 (to_r0 (pc := 55) rw_196_55 ?_)))))
      have k_11 : (-1 : Int32).toInt = -1 := rfl
      have j_12 := (NJ_f (fun a i z => W_n W1 (by /-r77,2-/ omega) rfl) q3)
      exact h (-1 : Int32) M2 hG3 F4 j_12
    · refine to_in (pc := 4) rw_187_4 rfl (to_an (pc := 5) rw_187_5 rfl ?_)
      have c_13 : M2.2.1 77 28 = (M.2.1 77 28) := (W_n W1 (by decide) rfl)
      have b_14 := g_b hG (a := 77) (i := 28) (lo := 0) (hi := 30) rfl rfl
      refine tt_gI (pc := 6) rw_187_6 (g_o hG3 rfl) (v := (M.2.1 77 28)) c_13 (b_cge (pc := 9) rw_187_9 (A := c.toInt) (B := (M.2.1 77 28).toInt) rfl rfl (fun h15 => ?_) (fun h15 => ?_))
      · refine to_c (pc := 16) rw_187_16 (x := (0 : Int32)) rfl rfl (s_r1 (pc := 17) rw_187_17 (A := 0) rfl (by decide) (b_ieq_t (pc := 20) rw_196_20 (A := 0) rfl (by decide) (to_c (pc := 35) rw_196_35 (x := (-1 : Int32)) rfl rfl (to_go (pc := 36) rw_196_36 (to_r0 (pc := 55) rw_196_55 ?_)))))
        have k_16 : (-1 : Int32).toInt = -1 := rfl
        have j_17 := (NJ_f (fun a i z => W_n W1 (by /-r77,2-/ omega) rfl) q3)
        exact h (-1 : Int32) M2 hG3 F4 j_17
      · refine to_c (pc := 12) rw_187_12 (x := (1 : Int32)) rfl rfl (to_go (pc := 13) rw_187_13 (s_r1 (pc := 17) rw_187_17 (A := 1) rfl (by decide) (b_ieq_f (pc := 20) rw_196_20 (A := 1) rfl (by decide) (to_in (pc := 23) rw_196_23 rfl (b_ilt (pc := 24) rw_196_24 (A := e.toInt) rfl (fun h18 => ?_) (fun h18 => ?_))))))
        · refine to_c (pc := 35) rw_196_35 (x := (-1 : Int32)) rfl rfl (to_go (pc := 36) rw_196_36 (to_r0 (pc := 55) rw_196_55 ?_))
          have k_19 : (-1 : Int32).toInt = -1 := rfl
          have j_20 := (NJ_f (fun a i z => W_n W1 (by /-r77,2-/ omega) rfl) q3)
          exact h (-1 : Int32) M2 hG3 F4 j_20
        · refine to_in (pc := 27) rw_196_27 rfl (to_an (pc := 28) rw_196_28 rfl ?_)
          have c_21 : M2.2.1 77 11 = (M.2.1 77 11) := (W_n W1 (by decide) rfl)
          have b_22 := g_b hG (a := 77) (i := 11) (lo := 10) (hi := 60) rfl rfl
          refine tt_gI (pc := 29) rw_196_29 (g_o hG3 rfl) (v := (M.2.1 77 11)) c_21 (b_clt (pc := 32) rw_196_32 (A := e.toInt) (B := (M.2.1 77 11).toInt) rfl rfl (fun h23 => ?_) (fun h23 => ?_))
          · refine to_an (pc := 39) rw_196_39 rfl (to_in (pc := 40) rw_196_40 rfl (b_ieq (pc := 41) rw_196_41 (A := m.toInt) rfl (fun h24 => ?_) (fun h24 => ?_)))
            · refine to_c (pc := 48) rw_196_48 (x := (2 : Int32)) rfl rfl (to_in (pc := 49) rw_196_49 rfl (to_in (pc := 50) rw_196_50 rfl (to_c (pc := 51) rw_196_51 (x := (0 : Int32)) rfl rfl (s_v (pc := 52) rw_196_52 (dp0 hd (by decide)) (ls0 := [.ref 77, .int (2 : Int32), .int c, .int e, .int (0 : Int32)]) rfl (Nat.le_of_ble_eq_true rfl) (Nat.le_of_ble_eq_true rfl) rfl (to_rc rfl rfl rfl (g_o hG3 rfl)) rfl ?_))))
              have k_25 : (2 : Int32).toInt = 2 := rfl
              have k_26 : (0 : Int32).toInt = 0 := rfl
              have t_27 : (M2.2.1 77 29).toInt = (M.2.1 77 29).toInt := congrArg Int32.toInt c_5
              have j_28 := (NJ_f (fun a i z => W_n W1 (by /-r77,2-/ omega) rfl) q3)
              refine C_191 hX (dp1 hd (by decide)) hG3 (by omega) (by omega) (by omega) (by omega) (by omega) (by omega) (by omega) (by omega) (by omega) (by omega) j_28 (w := (2 : Int32)) (o := c) (m := e) (v := (0 : Int32)) (fun r29 M35 hG31 F30 p_32 p_33 p_34 => ?_)
              have F36 := FR.c F4 F30 tg_105
              have b_37 := g_b hG31 (a := 77) (i := 29) (lo := 0) (hi := 150) rfl rfl
              refine to_r0 (pc := 55) rw_196_55 ?_
              exact h r29 M35 hG31 F36 p_34
            · refine to_c (pc := 44) rw_196_44 (x := (3 : Int32)) rfl rfl (to_go (pc := 45) rw_196_45 (to_in (pc := 49) rw_196_49 rfl (to_in (pc := 50) rw_196_50 rfl (to_c (pc := 51) rw_196_51 (x := (0 : Int32)) rfl rfl (s_v (pc := 52) rw_196_52 (dp0 hd (by decide)) (ls0 := [.ref 77, .int (3 : Int32), .int c, .int e, .int (0 : Int32)]) rfl (Nat.le_of_ble_eq_true rfl) (Nat.le_of_ble_eq_true rfl) rfl (to_rc rfl rfl rfl (g_o hG3 rfl)) rfl ?_)))))
              have k_38 : (3 : Int32).toInt = 3 := rfl
              have k_39 : (0 : Int32).toInt = 0 := rfl
              have t_40 : (M2.2.1 77 29).toInt = (M.2.1 77 29).toInt := congrArg Int32.toInt c_5
              have j_41 := (NJ_f (fun a i z => W_n W1 (by /-r77,2-/ omega) rfl) q3)
              refine C_191 hX (dp1 hd (by decide)) hG3 (by omega) (by omega) (by omega) (by omega) (by omega) (by omega) (by omega) (by omega) (by omega) (by omega) j_41 (w := (3 : Int32)) (o := c) (m := e) (v := (0 : Int32)) (fun r42 M48 hG44 F43 p_45 p_46 p_47 => ?_)
              have F49 := FR.c F4 F43 tg_105
              have b_50 := g_b hG44 (a := 77) (i := 29) (lo := 0) (hi := 150) rfl rfl
              refine to_r0 (pc := 55) rw_196_55 ?_
              exact h r42 M48 hG44 F49 p_47
          · refine to_c (pc := 35) rw_196_35 (x := (-1 : Int32)) rfl rfl (to_go (pc := 36) rw_196_36 (to_r0 (pc := 55) rw_196_55 ?_))
            have k_51 : (-1 : Int32).toInt = -1 := rfl
            have j_52 := (NJ_f (fun a i z => W_n W1 (by /-r77,2-/ omega) rfl) q3)
            exact h (-1 : Int32) M2 hG3 F4 j_52
set_option maxRecDepth 4000 in
set_option maxHeartbeats 0 in
theorem C_198 {X : mm_X} {d : Nat} {M : mm_M} {Q : Option Value → mm_M → Prop} {w : Int32} {b : Int32} (hX : g_X X) (hd : 2 ≤ d) (hG : g_G M) (q1 : NJ M) (h : ∀ (r : Int32) (M1 : mm_M), g_G M1 → FR md_t2 M M1 → NJ M1 → Q (some (.int r)) M1) : mm_T X d 197 0 [.ref 77, .int w, .int b] [] M Q := by
  have F0 : FR md_t2 M M := FR.rf
  refine to_an (pc := 0) rw_198_0 rfl (to_c (pc := 1) rw_198_1 (x := (0 : Int32)) rfl rfl (s_pI (pc := 2) rw_198_2 hG rfl (fun M2 W1 => ?_)))
  have hG3 := g_wf hG W1 rfl rfl (by decide)
  have F4 := FR.w F0 W1 (show 77 = 77 ∧ (2 = 2 ∨ 2 = 29) ∨ 90 ≤ 77 ∧ 77 ≤ 93 by decide)
  refine to_an (pc := 5) rw_198_5 rfl ?_
  have c_5 : M2.2.1 77 29 = (M.2.1 77 29) := (W_n W1 (by decide) rfl)
  have b_6 := g_b hG (a := 77) (i := 29) (lo := 0) (hi := 150) rfl rfl
  refine tt_gI (pc := 6) rw_198_6 (g_o hG3 rfl) (v := (M.2.1 77 29)) c_5 (to_c (pc := 9) rw_198_9 (x := (150 : Int32)) rfl rfl (b_ceq (pc := 12) rw_198_12 (A := (M.2.1 77 29).toInt) (B := 150) rfl rfl (fun h7 => ?_) (fun h7 => ?_)))
  · refine to_c (pc := 61) rw_198_61 (x := (-1 : Int32)) rfl rfl (to_r0 (pc := 62) rw_198_62 ?_)
    have k_8 : (-1 : Int32).toInt = -1 := rfl
    have j_9 := (NJ_f (fun a i z => W_n W1 (by /-r77,2-/ omega) rfl) q1)
    exact h (-1 : Int32) M2 hG3 F4 j_9
  · refine to_an (pc := 15) rw_198_15 rfl (to_in (pc := 16) rw_198_16 rfl (s_v (pc := 17) rw_198_17 (dp0 hd (by decide)) (ls0 := [.ref 77, .int w]) rfl (Nat.le_of_ble_eq_true rfl) (Nat.le_of_ble_eq_true rfl) rfl (to_rc rfl rfl rfl (g_o hG3 rfl)) rfl (to_in (pc := 0) rw_180_0 rfl (b_ilt (pc := 1) rw_180_1 (A := w.toInt) rfl (fun h10 => ?_) (fun h10 => ?_)))))
    · refine to_c (pc := 16) rw_180_16 (x := (0 : Int32)) rfl rfl (s_r1 (pc := 17) rw_180_17 (A := 0) rfl (by decide) (b_ieq_t (pc := 20) rw_198_20 (A := 0) rfl (by decide) (to_c (pc := 61) rw_198_61 (x := (-1 : Int32)) rfl rfl (to_r0 (pc := 62) rw_198_62 ?_))))
      have k_11 : (-1 : Int32).toInt = -1 := rfl
      have j_12 := (NJ_f (fun a i z => W_n W1 (by /-r77,2-/ omega) rfl) q1)
      exact h (-1 : Int32) M2 hG3 F4 j_12
    · refine to_in (pc := 4) rw_180_4 rfl (to_an (pc := 5) rw_180_5 rfl ?_)
      have c_13 : M2.2.1 77 13 = (M.2.1 77 13) := (W_n W1 (by decide) rfl)
      have b_14 := g_b hG (a := 77) (i := 13) (lo := 0) (hi := 12) rfl rfl
      refine tt_gI (pc := 6) rw_180_6 (g_o hG3 rfl) (v := (M.2.1 77 13)) c_13 (b_cge (pc := 9) rw_180_9 (A := w.toInt) (B := (M.2.1 77 13).toInt) rfl rfl (fun h15 => ?_) (fun h15 => ?_))
      · refine to_c (pc := 16) rw_180_16 (x := (0 : Int32)) rfl rfl (s_r1 (pc := 17) rw_180_17 (A := 0) rfl (by decide) (b_ieq_t (pc := 20) rw_198_20 (A := 0) rfl (by decide) (to_c (pc := 61) rw_198_61 (x := (-1 : Int32)) rfl rfl (to_r0 (pc := 62) rw_198_62 ?_))))
        have k_16 : (-1 : Int32).toInt = -1 := rfl
        have j_17 := (NJ_f (fun a i z => W_n W1 (by /-r77,2-/ omega) rfl) q1)
        exact h (-1 : Int32) M2 hG3 F4 j_17
      · refine to_c (pc := 12) rw_180_12 (x := (1 : Int32)) rfl rfl (to_go (pc := 13) rw_180_13 (s_r1 (pc := 17) rw_180_17 (A := 1) rfl (by decide) (b_ieq_f (pc := 20) rw_198_20 (A := 1) rfl (by decide) (to_in (pc := 23) rw_198_23 rfl (b_ilt (pc := 24) rw_198_24 (A := b.toInt) rfl (fun h18 => ?_) (fun h18 => ?_))))))
        · refine to_c (pc := 61) rw_198_61 (x := (-1 : Int32)) rfl rfl (to_r0 (pc := 62) rw_198_62 ?_)
          have k_19 : (-1 : Int32).toInt = -1 := rfl
          have j_20 := (NJ_f (fun a i z => W_n W1 (by /-r77,2-/ omega) rfl) q1)
          exact h (-1 : Int32) M2 hG3 F4 j_20
        · refine to_in (pc := 27) rw_198_27 rfl (to_an (pc := 28) rw_198_28 rfl (to_an (pc := 29) rw_198_29 rfl (s_gR (pc := 30) rw_198_30 hG3 rfl (v := 86) rfl (to_in (pc := 33) rw_198_33 rfl (s_ial (pc := 34) rw_198_34 hG3 rfl (n := 24) rfl rfl (A := w.toInt) rfl (by omega) (by omega) (lo := 0) (hi := 7) rfl rfl (fun v21 w_22 _ _ => s_v (pc := 35) rw_198_35 (dp0 hd (by decide)) (ls0 := [.ref 77, .int v21]) rfl (Nat.le_of_ble_eq_true rfl) (Nat.le_of_ble_eq_true rfl) rfl (to_rc rfl rfl rfl (g_o hG3 rfl)) rfl (to_an (pc := 0) rw_197_0 rfl (s_gR (pc := 1) rw_197_1 hG3 rfl (v := 83) rfl (to_in (pc := 4) rw_197_4 rfl (s_ial (pc := 5) rw_197_5 hG3 rfl (n := 16) rfl rfl (A := v21.toInt) rfl (by omega) (by omega) (lo := 0) (hi := 63) rfl rfl (fun v23 w_24 _ _ => to_an (pc := 6) rw_197_6 rfl ?_)))))))))))
          refine s_gR (pc := 7) rw_197_7 hG3 rfl (v := 82) rfl (to_in (pc := 10) rw_197_10 rfl (s_ial (pc := 11) rw_197_11 hG3 rfl (n := 16) rfl rfl (A := v21.toInt) rfl (by omega) (by omega) (lo := 0) (hi := 59) rfl rfl (fun v25 w_26 _ _ => s_sub (pc := 12) rw_197_12 (A := v23.toInt) (B := v25.toInt) rfl rfl (by omega) (fun v27 e28 => to_c (pc := 13) rw_197_13 (x := (1 : Int32)) rfl rfl (s_add (pc := 14) rw_197_14 (A := v27.toInt) (B := 1) rfl rfl (by omega) (fun v29 e30 => to_r0 (pc := 15) rw_197_15 (s_shr (pc := 38) rw_198_38 (A := b.toInt) rfl (by omega) (fun v31 _ _ => b_ine (pc := 39) rw_198_39 (A := v31.toInt) rfl (fun h32 => ?_) (fun h32 => ?_)))))))))
          · refine to_c (pc := 61) rw_198_61 (x := (-1 : Int32)) rfl rfl (to_r0 (pc := 62) rw_198_62 ?_)
            have k_33 : (-1 : Int32).toInt = -1 := rfl
            have j_34 := (NJ_f (fun a i z => W_n W1 (by /-r77,2-/ omega) rfl) q1)
            exact h (-1 : Int32) M2 hG3 F4 j_34
          · refine to_in (pc := 42) rw_198_42 rfl (s_i2l (pc := 43) rw_198_43 (fun l35 e36 => s_s (pc := 44) rw_198_44 (dp0 hd (by decide)) (ls0 := [.long l35, .null, .null, .null]) rfl (Nat.le_of_ble_eq_true rfl) (Nat.le_of_ble_eq_true rfl) rfl (to_rcs rfl rfl) rfl (C_151 hX (dp1 hd (by decide)) hG3 (x := l35) (fun r37 M42 hG39 F38 p_40 p_41 => ?_))))
            have F43 := FR.c F4 F38 tg_106
            refine to_an (pc := 47) rw_198_47 rfl (s_gR (pc := 48) rw_198_48 hG39 rfl (v := 84) rfl (to_an (pc := 51) rw_198_51 rfl (s_gR (pc := 52) rw_198_52 hG39 rfl (v := 86) rfl (to_in (pc := 55) rw_198_55 rfl (s_ialk (pc := 56) rw_198_56 hG39 rfl (n := 24) rfl rfl (A := w.toInt) rfl (by omega) (by omega) (v := v21) (F_n F38 (show ¬ (86 < 0) by decide) w_22) (s_ial (pc := 57) rw_198_57 hG39 rfl (n := 16) rfl rfl (A := v21.toInt) rfl (by omega) (by omega) (lo := 0) (hi := 24) rfl rfl (fun v46 w_47 _ _ => b_ceq (pc := 58) rw_198_58 (A := r37.toInt) (B := v46.toInt) rfl rfl (fun h48 => ?_) (fun h48 => ?_))))))))
            · refine to_an (pc := 63) rw_198_63 rfl (to_c (pc := 64) rw_198_64 (x := (4 : Int32)) rfl rfl (to_in (pc := 65) rw_198_65 rfl (to_in (pc := 66) rw_198_66 rfl (to_c (pc := 67) rw_198_67 (x := (0 : Int32)) rfl rfl (s_v (pc := 68) rw_198_68 (dp0 hd (by decide)) (ls0 := [.ref 77, .int (4 : Int32), .int w, .int b, .int (0 : Int32)]) rfl (Nat.le_of_ble_eq_true rfl) (Nat.le_of_ble_eq_true rfl) rfl (to_rc rfl rfl rfl (g_o hG39 rfl)) rfl ?_)))))
              have k_49 : (4 : Int32).toInt = 4 := rfl
              have k_50 : (0 : Int32).toInt = 0 := rfl
              have c_51 : M42.2.1 77 29 = (M.2.1 77 29) := (F_n F38 (show ¬ (77 < 0) by decide) c_5)
              have t_52 : (M42.2.1 77 29).toInt = (M.2.1 77 29).toInt := congrArg Int32.toInt c_51
              have j_53 := (NJ_f (tg_102 F38) (NJ_f (fun a i z => W_n W1 (by /-r77,2-/ omega) rfl) q1))
              refine C_191 hX (dp1 hd (by decide)) hG39 (by omega) (by omega) (by omega) (by omega) (by omega) (by omega) (by omega) (by omega) (by omega) (by omega) j_53 (w := (4 : Int32)) (o := w) (m := b) (v := (0 : Int32)) (fun r54 M60 hG56 F55 p_57 p_58 p_59 => ?_)
              have F61 := FR.c F43 F55 tg_105
              have b_62 := g_b hG56 (a := 77) (i := 29) (lo := 0) (hi := 150) rfl rfl
              refine to_r0 (pc := 71) rw_198_71 ?_
              exact h r54 M60 hG56 F61 p_59
            · refine to_c (pc := 61) rw_198_61 (x := (-1 : Int32)) rfl rfl (to_r0 (pc := 62) rw_198_62 ?_)
              have k_63 : (-1 : Int32).toInt = -1 := rfl
              have j_64 := (NJ_f (tg_102 F38) (NJ_f (fun a i z => W_n W1 (by /-r77,2-/ omega) rfl) q1))
              exact h (-1 : Int32) M42 hG39 F43 j_64
set_option maxRecDepth 4000 in
set_option maxHeartbeats 0 in
theorem C_199 {X : mm_X} {d : Nat} {M : mm_M} {Q : Option Value → mm_M → Prop} {n : Int32} (hX : g_X X) (hd : 1 ≤ d) (hG : g_G M) (q1 : NJ M) (h : ∀ (r : Int32) (M1 : mm_M), g_G M1 → FR md_t2 M M1 → NJ M1 → Q (some (.int r)) M1) : mm_T X d 198 0 [.ref 77, .int n] [] M Q := by
  have F0 : FR md_t2 M M := FR.rf
  refine to_an (pc := 0) rw_199_0 rfl (to_c (pc := 1) rw_199_1 (x := (0 : Int32)) rfl rfl (s_pI (pc := 2) rw_199_2 hG rfl (fun M2 W1 => ?_)))
  have hG3 := g_wf hG W1 rfl rfl (by decide)
  have F4 := FR.w F0 W1 (show 77 = 77 ∧ (2 = 2 ∨ 2 = 29) ∨ 90 ≤ 77 ∧ 77 ≤ 93 by decide)
  refine to_an (pc := 5) rw_199_5 rfl ?_
  have c_5 : M2.2.1 77 29 = (M.2.1 77 29) := (W_n W1 (by decide) rfl)
  have b_6 := g_b hG (a := 77) (i := 29) (lo := 0) (hi := 150) rfl rfl
  refine tt_gI (pc := 6) rw_199_6 (g_o hG3 rfl) (v := (M.2.1 77 29)) c_5 (to_c (pc := 9) rw_199_9 (x := (150 : Int32)) rfl rfl (b_ceq (pc := 12) rw_199_12 (A := (M.2.1 77 29).toInt) (B := 150) rfl rfl (fun h7 => ?_) (fun h7 => ?_)))
  · refine to_c (pc := 27) rw_199_27 (x := (-1 : Int32)) rfl rfl (to_go (pc := 28) rw_199_28 (to_r0 (pc := 39) rw_199_39 ?_))
    have k_8 : (-1 : Int32).toInt = -1 := rfl
    have j_9 := (NJ_f (fun a i z => W_n W1 (by /-r77,2-/ omega) rfl) q1)
    exact h (-1 : Int32) M2 hG3 F4 j_9
  · refine to_in (pc := 15) rw_199_15 rfl (b_ilt (pc := 16) rw_199_16 (A := n.toInt) rfl (fun h10 => ?_) (fun h10 => ?_))
    · refine to_c (pc := 27) rw_199_27 (x := (-1 : Int32)) rfl rfl (to_go (pc := 28) rw_199_28 (to_r0 (pc := 39) rw_199_39 ?_))
      have k_11 : (-1 : Int32).toInt = -1 := rfl
      have j_12 := (NJ_f (fun a i z => W_n W1 (by /-r77,2-/ omega) rfl) q1)
      exact h (-1 : Int32) M2 hG3 F4 j_12
    · refine to_in (pc := 19) rw_199_19 rfl (to_an (pc := 20) rw_199_20 rfl (tt_gI (pc := 21) rw_199_21 (g_o hG3 rfl) (v := (M.2.1 77 29)) c_5 (b_clt (pc := 24) rw_199_24 (A := n.toInt) (B := (M.2.1 77 29).toInt) rfl rfl (fun h13 => ?_) (fun h13 => ?_))))
      · refine to_an (pc := 31) rw_199_31 rfl (to_c (pc := 32) rw_199_32 (x := (5 : Int32)) rfl rfl (to_in (pc := 33) rw_199_33 rfl (to_c (pc := 34) rw_199_34 (x := (0 : Int32)) rfl rfl (to_c (pc := 35) rw_199_35 (x := (0 : Int32)) rfl rfl (s_v (pc := 36) rw_199_36 (dp0 hd (by decide)) (ls0 := [.ref 77, .int (5 : Int32), .int n, .int (0 : Int32), .int (0 : Int32)]) rfl (Nat.le_of_ble_eq_true rfl) (Nat.le_of_ble_eq_true rfl) rfl (to_rc rfl rfl rfl (g_o hG3 rfl)) rfl ?_)))))
        have k_14 : (5 : Int32).toInt = 5 := rfl
        have k_15 : (0 : Int32).toInt = 0 := rfl
        have t_16 : (M2.2.1 77 29).toInt = (M.2.1 77 29).toInt := congrArg Int32.toInt c_5
        have j_17 := (NJ_f (fun a i z => W_n W1 (by /-r77,2-/ omega) rfl) q1)
        refine C_191 hX (dp1 hd (by decide)) hG3 (by omega) (by omega) (by omega) (by omega) (by omega) (by omega) (by omega) (by omega) (by omega) (by omega) j_17 (w := (5 : Int32)) (o := n) (m := (0 : Int32)) (v := (0 : Int32)) (fun r18 M24 hG20 F19 p_21 p_22 p_23 => ?_)
        have F25 := FR.c F4 F19 tg_105
        have b_26 := g_b hG20 (a := 77) (i := 29) (lo := 0) (hi := 150) rfl rfl
        refine to_r0 (pc := 39) rw_199_39 ?_
        exact h r18 M24 hG20 F25 p_23
      · refine to_c (pc := 27) rw_199_27 (x := (-1 : Int32)) rfl rfl (to_go (pc := 28) rw_199_28 (to_r0 (pc := 39) rw_199_39 ?_))
        have k_27 : (-1 : Int32).toInt = -1 := rfl
        have j_28 := (NJ_f (fun a i z => W_n W1 (by /-r77,2-/ omega) rfl) q1)
        exact h (-1 : Int32) M2 hG3 F4 j_28
set_option maxRecDepth 4000 in
set_option maxHeartbeats 0 in
theorem C_200 {X : mm_X} {d : Nat} {M : mm_M} {Q : Option Value → mm_M → Prop} {n : Int32} {c : Int32} (hX : g_X X) (hd : 3 ≤ d) (hG : g_G M) (q1 : NJ M) (h : ∀ (r : Int64) (M1 : mm_M), g_G M1 → FR md_k2 M M1 → Q (some (.long r)) M1) : mm_T X d 199 0 [.ref 77, .int n, .int c] [] M Q := by
  have F0 : FR md_k2 M M := FR.rf
  refine to_an (pc := 0) rw_200_0 rfl (to_c (pc := 1) rw_200_1 (x := (0 : Int32)) rfl rfl (s_pI (pc := 2) rw_200_2 hG rfl (fun M2 W1 => ?_)))
  have hG3 := g_wf hG W1 rfl rfl (by decide)
  have F4 := FR.w F0 W1 (show 77 = 77 ∧ 2 = 2 ∨ 94 ≤ 77 ∧ 77 ≤ 98 by decide)
  refine to_an (pc := 5) rw_200_5 rfl (to_in (pc := 6) rw_200_6 rfl (s_v (pc := 7) rw_200_7 (dp0 hd (by decide)) (ls0 := [.ref 77, .int n]) rfl (Nat.le_of_ble_eq_true rfl) (Nat.le_of_ble_eq_true rfl) rfl (to_rc rfl rfl rfl (g_o hG3 rfl)) rfl (to_in (pc := 0) rw_186_0 rfl (b_ilt (pc := 1) rw_186_1 (A := n.toInt) rfl (fun h5 => ?_) (fun h5 => ?_)))))
  · refine to_c (pc := 16) rw_186_16 (x := (0 : Int32)) rfl rfl (s_r1 (pc := 17) rw_186_17 (A := 0) rfl (by decide) (b_ieq_t (pc := 10) rw_200_10 (A := 0) rfl (by decide) (s_cl (pc := 21) rw_200_21 rfl (fun l6 => to_rl (pc := 24) rw_200_24 ?_))))
    exact h l6 M2 hG3 F4 
  · refine to_in (pc := 4) rw_186_4 rfl (to_an (pc := 5) rw_186_5 rfl ?_)
    have c_7 : M2.2.1 77 29 = (M.2.1 77 29) := (W_n W1 (by decide) rfl)
    have b_8 := g_b hG (a := 77) (i := 29) (lo := 0) (hi := 150) rfl rfl
    refine tt_gI (pc := 6) rw_186_6 (g_o hG3 rfl) (v := (M.2.1 77 29)) c_7 (b_cgt (pc := 9) rw_186_9 (A := n.toInt) (B := (M.2.1 77 29).toInt) rfl rfl (fun h9 => ?_) (fun h9 => ?_))
    · refine to_c (pc := 16) rw_186_16 (x := (0 : Int32)) rfl rfl (s_r1 (pc := 17) rw_186_17 (A := 0) rfl (by decide) (b_ieq_t (pc := 10) rw_200_10 (A := 0) rfl (by decide) (s_cl (pc := 21) rw_200_21 rfl (fun l10 => to_rl (pc := 24) rw_200_24 ?_))))
      exact h l10 M2 hG3 F4 
    · refine to_c (pc := 12) rw_186_12 (x := (1 : Int32)) rfl rfl (to_go (pc := 13) rw_186_13 (s_r1 (pc := 17) rw_186_17 (A := 1) rfl (by decide) (b_ieq_f (pc := 10) rw_200_10 (A := 1) rfl (by decide) (to_an (pc := 13) rw_200_13 rfl (to_in (pc := 14) rw_200_14 rfl (s_v (pc := 15) rw_200_15 (dp0 hd (by decide)) (ls0 := [.ref 77, .int c]) rfl (Nat.le_of_ble_eq_true rfl) (Nat.le_of_ble_eq_true rfl) rfl (to_rc rfl rfl rfl (g_o hG3 rfl)) rfl (to_in (pc := 0) rw_187_0 rfl (b_ilt (pc := 1) rw_187_1 (A := c.toInt) rfl (fun h11 => ?_) (fun h11 => ?_)))))))))
      · refine to_c (pc := 16) rw_187_16 (x := (0 : Int32)) rfl rfl (s_r1 (pc := 17) rw_187_17 (A := 0) rfl (by decide) (b_ine_f (pc := 18) rw_200_18 (A := 0) rfl (by decide) (s_cl (pc := 21) rw_200_21 rfl (fun l12 => to_rl (pc := 24) rw_200_24 ?_))))
        exact h l12 M2 hG3 F4 
      · refine to_in (pc := 4) rw_187_4 rfl (to_an (pc := 5) rw_187_5 rfl ?_)
        have c_13 : M2.2.1 77 28 = (M.2.1 77 28) := (W_n W1 (by decide) rfl)
        have b_14 := g_b hG (a := 77) (i := 28) (lo := 0) (hi := 30) rfl rfl
        refine tt_gI (pc := 6) rw_187_6 (g_o hG3 rfl) (v := (M.2.1 77 28)) c_13 (b_cge (pc := 9) rw_187_9 (A := c.toInt) (B := (M.2.1 77 28).toInt) rfl rfl (fun h15 => ?_) (fun h15 => ?_))
        · refine to_c (pc := 16) rw_187_16 (x := (0 : Int32)) rfl rfl (s_r1 (pc := 17) rw_187_17 (A := 0) rfl (by decide) (b_ine_f (pc := 18) rw_200_18 (A := 0) rfl (by decide) (s_cl (pc := 21) rw_200_21 rfl (fun l16 => to_rl (pc := 24) rw_200_24 ?_))))
          exact h l16 M2 hG3 F4 
        · refine to_c (pc := 12) rw_187_12 (x := (1 : Int32)) rfl rfl (to_go (pc := 13) rw_187_13 (s_r1 (pc := 17) rw_187_17 (A := 1) rfl (by decide) (b_ine_t (pc := 18) rw_200_18 (A := 1) rfl (by decide) (to_an (pc := 25) rw_200_25 rfl (to_in (pc := 26) rw_200_26 rfl (s_v (pc := 27) rw_200_27 (dp0 hd (by decide)) (ls0 := [.ref 77, .int n, .null, .null]) rfl (Nat.le_of_ble_eq_true rfl) (Nat.le_of_ble_eq_true rfl) rfl (to_rc rfl rfl rfl (g_o hG3 rfl)) rfl ?_))))))
          have t_17 : (M2.2.1 77 29).toInt = (M.2.1 77 29).toInt := congrArg Int32.toInt c_7
          have j_18 := (NJ_f (fun a i z => W_n W1 (by /-r77,2-/ omega) rfl) q1)
          refine C_189 hX (dp1 hd (by decide)) hG3 (by omega) (by omega) (by omega) j_18 (n := n) (fun M21 hG20 F19 => ?_)
          have F22 := FR.c F4 F19 tg_263
          refine to_an (pc := 30) rw_200_30 rfl (s_gR (pc := 31) rw_200_31 hG20 rfl (v := 96) rfl (to_in (pc := 34) rw_200_34 rfl (s_lal (pc := 35) rw_200_35 hG20 rfl (n := 30) rfl (A := c.toInt) rfl (by omega) (by omega) (fun l23 => to_rl (pc := 36) rw_200_36 ?_))))
          exact h l23 M21 hG20 F22 
set_option maxRecDepth 4000 in
set_option maxHeartbeats 0 in
theorem T_201_0 {X : mm_X} {d : Nat} {M : mm_M} {Q : Option Value → mm_M → Prop} {f : Int32} (hX : g_X X) (hd : 0 ≤ d) (h : ∀ (r : Int32) (M1 : mm_M), g_G M1 → FR md_0 M M1 → Q (some (.int r)) M1) : ∀ nn9 : Nat, (∀ (N : mm_M) (x2 : Int32) (x3 : Int32), g_G N → FR md_0 M N → (0 ≤ x3.toInt) → (x3.toInt ≤ 12) → 12 - x3.toInt < (nn9 : Int) → mm_T X d 200 4 [.ref 77, .int f, .int x2, .int x3] [] N Q) := by
  intro nn9
  induction nn9 with
  | zero =>
    intro N x2 x3 hG F0 g1 g2 hm
    exfalso; omega
  | succ nn9 ih =>
    intro N x2 x3 hG F0 g1 g2 hm
    refine to_in (pc := 4) rw_201_4 rfl (to_an (pc := 5) rw_201_5 rfl ?_)
    have b_1 := g_b hG (a := 77) (i := 13) (lo := 0) (hi := 12) rfl rfl
    refine tt_gI (pc := 6) rw_201_6 (g_o hG rfl) (v := (N.2.1 77 13)) rfl (b_cge (pc := 9) rw_201_9 (A := x3.toInt) (B := (N.2.1 77 13).toInt) rfl rfl (fun h2 => ?_) (fun h2 => ?_))
    · refine to_in (pc := 38) rw_201_38 rfl (to_r0 (pc := 39) rw_201_39 ?_)
      exact h x2 N hG F0 
    · refine to_in (pc := 12) rw_201_12 rfl (to_an (pc := 13) rw_201_13 rfl (s_gR (pc := 14) rw_201_14 hG rfl (v := 86) rfl (to_in (pc := 17) rw_201_17 rfl (s_ial (pc := 18) rw_201_18 hG rfl (n := 24) rfl rfl (A := x3.toInt) rfl (by omega) (by omega) (lo := 0) (hi := 7) rfl rfl (fun v3 w_4 _ _ => to_in (pc := 19) rw_201_19 rfl (b_cne (pc := 20) rw_201_20 (A := v3.toInt) (B := f.toInt) rfl rfl (fun h5 => ?_) (fun h5 => ?_)))))))
      · refine to_c (pc := 29) rw_201_29 (x := (0 : Int32)) rfl rfl (s_any (pc := 30) rw_201_30 (fun _ _ => rfl) (fun v6 => to_isn (pc := 31) rw_201_31 (ls2 := [.ref 77, .int f, .int v6, .int x3]) rfl rfl (s_inc (pc := 32) rw_201_32 (ls2 := fun v => [.ref 77, .int f, .int v6, .int v]) rfl rfl (fun _ => rfl) (A := x3.toInt) (B := 1) rfl rfl (by omega) (fun v7 e8 => to_go (pc := 35) rw_201_35 ?_))))
        exact ih N v6 v7 hG F0 (by omega) (by omega) (by omega)
      · refine to_c (pc := 23) rw_201_23 (x := (1 : Int32)) rfl rfl (to_in (pc := 24) rw_201_24 rfl (s_any (pc := 25) rw_201_25 (fun _ _ => rfl) (fun v9 => to_go (pc := 26) rw_201_26 (s_any (pc := 30) rw_201_30 (fun _ _ => rfl) (fun v10 => to_isn (pc := 31) rw_201_31 (ls2 := [.ref 77, .int f, .int v10, .int x3]) rfl rfl (s_inc (pc := 32) rw_201_32 (ls2 := fun v => [.ref 77, .int f, .int v10, .int v]) rfl rfl (fun _ => rfl) (A := x3.toInt) (B := 1) rfl rfl (by omega) (fun v11 e12 => to_go (pc := 35) rw_201_35 ?_)))))))
        exact ih N v10 v11 hG F0 (by omega) (by omega) (by omega)
set_option maxRecDepth 4000 in
set_option maxHeartbeats 0 in
theorem C_201 {X : mm_X} {d : Nat} {M : mm_M} {Q : Option Value → mm_M → Prop} {f : Int32} (hX : g_X X) (hd : 0 ≤ d) (hG : g_G M) (h : ∀ (r : Int32) (M1 : mm_M), g_G M1 → FR md_0 M M1 → Q (some (.int r)) M1) : mm_T X d 200 0 [.ref 77, .int f, .null, .null] [] M Q := by
  have F0 : FR md_0 M M := FR.rf
  refine to_c (pc := 0) rw_201_0 (x := (0 : Int32)) rfl rfl (to_isn (pc := 1) rw_201_1 (ls2 := [.ref 77, .int f, .int (0 : Int32), .null]) rfl rfl (to_c (pc := 2) rw_201_2 (x := (0 : Int32)) rfl rfl (to_isn (pc := 3) rw_201_3 (ls2 := [.ref 77, .int f, .int (0 : Int32), .int (0 : Int32)]) rfl rfl ?_)))
  have k_13 : (0 : Int32).toInt = 0 := rfl
  exact (T_201_0 (f := f) hX hd  h ((12 - (0 : Int32).toInt).toNat + 1)) M (0 : Int32) (0 : Int32) hG F0 (by omega) (by omega) (by omega)
set_option maxRecDepth 4000 in
set_option maxHeartbeats 0 in
theorem C_202 {X : mm_X} {d : Nat} {M : mm_M} {Q : Option Value → mm_M → Prop} {n : Int32} {c : Int32} {f : Int32} (hX : g_X X) (hd : 3 ≤ d) (hG : g_G M) (q1 : NJ M) (h : ∀ (r : Int32) (M1 : mm_M), g_G M1 → FR md_k2 M M1 → Q (some (.int r)) M1) : mm_T X d 201 0 [.ref 77, .int n, .int c, .int f] [] M Q := by
  have F0 : FR md_k2 M M := FR.rf
  refine to_an (pc := 0) rw_202_0 rfl (to_c (pc := 1) rw_202_1 (x := (0 : Int32)) rfl rfl (s_pI (pc := 2) rw_202_2 hG rfl (fun M2 W1 => ?_)))
  have hG3 := g_wf hG W1 rfl rfl (by decide)
  have F4 := FR.w F0 W1 (show 77 = 77 ∧ 2 = 2 ∨ 94 ≤ 77 ∧ 77 ≤ 98 by decide)
  refine to_an (pc := 5) rw_202_5 rfl (to_in (pc := 6) rw_202_6 rfl (s_v (pc := 7) rw_202_7 (dp0 hd (by decide)) (ls0 := [.ref 77, .int n]) rfl (Nat.le_of_ble_eq_true rfl) (Nat.le_of_ble_eq_true rfl) rfl (to_rc rfl rfl rfl (g_o hG3 rfl)) rfl (to_in (pc := 0) rw_186_0 rfl (b_ilt (pc := 1) rw_186_1 (A := n.toInt) rfl (fun h5 => ?_) (fun h5 => ?_)))))
  · refine to_c (pc := 16) rw_186_16 (x := (0 : Int32)) rfl rfl (s_r1 (pc := 17) rw_186_17 (A := 0) rfl (by decide) (b_ieq_t (pc := 10) rw_202_10 (A := 0) rfl (by decide) (to_c (pc := 29) rw_202_29 (x := (-2 : Int32)) rfl rfl (to_r0 (pc := 31) rw_202_31 ?_))))
    have k_6 : (-2 : Int32).toInt = -2 := rfl
    exact h (-2 : Int32) M2 hG3 F4 
  · refine to_in (pc := 4) rw_186_4 rfl (to_an (pc := 5) rw_186_5 rfl ?_)
    have c_7 : M2.2.1 77 29 = (M.2.1 77 29) := (W_n W1 (by decide) rfl)
    have b_8 := g_b hG (a := 77) (i := 29) (lo := 0) (hi := 150) rfl rfl
    refine tt_gI (pc := 6) rw_186_6 (g_o hG3 rfl) (v := (M.2.1 77 29)) c_7 (b_cgt (pc := 9) rw_186_9 (A := n.toInt) (B := (M.2.1 77 29).toInt) rfl rfl (fun h9 => ?_) (fun h9 => ?_))
    · refine to_c (pc := 16) rw_186_16 (x := (0 : Int32)) rfl rfl (s_r1 (pc := 17) rw_186_17 (A := 0) rfl (by decide) (b_ieq_t (pc := 10) rw_202_10 (A := 0) rfl (by decide) (to_c (pc := 29) rw_202_29 (x := (-2 : Int32)) rfl rfl (to_r0 (pc := 31) rw_202_31 ?_))))
      have k_10 : (-2 : Int32).toInt = -2 := rfl
      exact h (-2 : Int32) M2 hG3 F4 
    · refine to_c (pc := 12) rw_186_12 (x := (1 : Int32)) rfl rfl (to_go (pc := 13) rw_186_13 (s_r1 (pc := 17) rw_186_17 (A := 1) rfl (by decide) (b_ieq_f (pc := 10) rw_202_10 (A := 1) rfl (by decide) (to_an (pc := 13) rw_202_13 rfl (to_in (pc := 14) rw_202_14 rfl (s_v (pc := 15) rw_202_15 (dp0 hd (by decide)) (ls0 := [.ref 77, .int c]) rfl (Nat.le_of_ble_eq_true rfl) (Nat.le_of_ble_eq_true rfl) rfl (to_rc rfl rfl rfl (g_o hG3 rfl)) rfl (to_in (pc := 0) rw_187_0 rfl (b_ilt (pc := 1) rw_187_1 (A := c.toInt) rfl (fun h11 => ?_) (fun h11 => ?_)))))))))
      · refine to_c (pc := 16) rw_187_16 (x := (0 : Int32)) rfl rfl (s_r1 (pc := 17) rw_187_17 (A := 0) rfl (by decide) (b_ieq_t (pc := 18) rw_202_18 (A := 0) rfl (by decide) (to_c (pc := 29) rw_202_29 (x := (-2 : Int32)) rfl rfl (to_r0 (pc := 31) rw_202_31 ?_))))
        have k_12 : (-2 : Int32).toInt = -2 := rfl
        exact h (-2 : Int32) M2 hG3 F4 
      · refine to_in (pc := 4) rw_187_4 rfl (to_an (pc := 5) rw_187_5 rfl ?_)
        have c_13 : M2.2.1 77 28 = (M.2.1 77 28) := (W_n W1 (by decide) rfl)
        have b_14 := g_b hG (a := 77) (i := 28) (lo := 0) (hi := 30) rfl rfl
        refine tt_gI (pc := 6) rw_187_6 (g_o hG3 rfl) (v := (M.2.1 77 28)) c_13 (b_cge (pc := 9) rw_187_9 (A := c.toInt) (B := (M.2.1 77 28).toInt) rfl rfl (fun h15 => ?_) (fun h15 => ?_))
        · refine to_c (pc := 16) rw_187_16 (x := (0 : Int32)) rfl rfl (s_r1 (pc := 17) rw_187_17 (A := 0) rfl (by decide) (b_ieq_t (pc := 18) rw_202_18 (A := 0) rfl (by decide) (to_c (pc := 29) rw_202_29 (x := (-2 : Int32)) rfl rfl (to_r0 (pc := 31) rw_202_31 ?_))))
          have k_16 : (-2 : Int32).toInt = -2 := rfl
          exact h (-2 : Int32) M2 hG3 F4 
        · refine to_c (pc := 12) rw_187_12 (x := (1 : Int32)) rfl rfl (to_go (pc := 13) rw_187_13 (s_r1 (pc := 17) rw_187_17 (A := 1) rfl (by decide) (b_ieq_f (pc := 18) rw_202_18 (A := 1) rfl (by decide) (to_an (pc := 21) rw_202_21 rfl (to_in (pc := 22) rw_202_22 rfl (s_v (pc := 23) rw_202_23 (dp0 hd (by decide)) (ls0 := [.ref 77, .int f]) rfl (Nat.le_of_ble_eq_true rfl) (Nat.le_of_ble_eq_true rfl) rfl (to_rc rfl rfl rfl (g_o hG3 rfl)) rfl (to_in (pc := 0) rw_178_0 rfl (b_ilt (pc := 1) rw_178_1 (A := f.toInt) rfl (fun h17 => ?_) (fun h17 => ?_)))))))))
          · refine to_c (pc := 16) rw_178_16 (x := (0 : Int32)) rfl rfl (s_r1 (pc := 17) rw_178_17 (A := 0) rfl (by decide) (b_ine_f (pc := 26) rw_202_26 (A := 0) rfl (by decide) (to_c (pc := 29) rw_202_29 (x := (-2 : Int32)) rfl rfl (to_r0 (pc := 31) rw_202_31 ?_))))
            have k_18 : (-2 : Int32).toInt = -2 := rfl
            exact h (-2 : Int32) M2 hG3 F4 
          · refine to_in (pc := 4) rw_178_4 rfl (to_an (pc := 5) rw_178_5 rfl ?_)
            have c_19 : M2.2.1 77 12 = (M.2.1 77 12) := (W_n W1 (by decide) rfl)
            have b_20 := g_b hG (a := 77) (i := 12) (lo := 0) (hi := 8) rfl rfl
            refine tt_gI (pc := 6) rw_178_6 (g_o hG3 rfl) (v := (M.2.1 77 12)) c_19 (b_cge (pc := 9) rw_178_9 (A := f.toInt) (B := (M.2.1 77 12).toInt) rfl rfl (fun h21 => ?_) (fun h21 => ?_))
            · refine to_c (pc := 16) rw_178_16 (x := (0 : Int32)) rfl rfl (s_r1 (pc := 17) rw_178_17 (A := 0) rfl (by decide) (b_ine_f (pc := 26) rw_202_26 (A := 0) rfl (by decide) (to_c (pc := 29) rw_202_29 (x := (-2 : Int32)) rfl rfl (to_r0 (pc := 31) rw_202_31 ?_))))
              have k_22 : (-2 : Int32).toInt = -2 := rfl
              exact h (-2 : Int32) M2 hG3 F4 
            · refine to_c (pc := 12) rw_178_12 (x := (1 : Int32)) rfl rfl (to_go (pc := 13) rw_178_13 (s_r1 (pc := 17) rw_178_17 (A := 1) rfl (by decide) (b_ine_t (pc := 26) rw_202_26 (A := 1) rfl (by decide) (to_an (pc := 32) rw_202_32 rfl (to_in (pc := 33) rw_202_33 rfl (s_v (pc := 34) rw_202_34 (dp0 hd (by decide)) (ls0 := [.ref 77, .int n, .null, .null]) rfl (Nat.le_of_ble_eq_true rfl) (Nat.le_of_ble_eq_true rfl) rfl (to_rc rfl rfl rfl (g_o hG3 rfl)) rfl ?_))))))
              have t_23 : (M2.2.1 77 29).toInt = (M.2.1 77 29).toInt := congrArg Int32.toInt c_7
              have j_24 := (NJ_f (fun a i z => W_n W1 (by /-r77,2-/ omega) rfl) q1)
              refine C_189 hX (dp1 hd (by decide)) hG3 (by omega) (by omega) (by omega) j_24 (n := n) (fun M27 hG26 F25 => ?_)
              have F28 := FR.c F4 F25 tg_263
              refine to_an (pc := 37) rw_202_37 rfl (s_gR (pc := 38) rw_202_38 hG26 rfl (v := 81) rfl (to_in (pc := 41) rw_202_41 rfl (s_ial (pc := 42) rw_202_42 hG26 rfl (n := 16) rfl rfl (A := f.toInt) rfl (by omega) (by omega) (lo := 0) (hi := 3) rfl rfl (fun v29 w_30 _ _ => to_c (pc := 43) rw_202_43 (x := (3 : Int32)) rfl rfl (b_cne (pc := 44) rw_202_44 (A := v29.toInt) (B := 3) rfl rfl (fun h31 => ?_) (fun h31 => ?_))))))
              · refine to_an (pc := 62) rw_202_62 rfl (s_gR (pc := 63) rw_202_63 hG26 rfl (v := 97) rfl (to_c (pc := 66) rw_202_66 (x := (8 : Int32)) rfl rfl (to_in (pc := 68) rw_202_68 rfl (s_mul (pc := 69) rw_202_69 (A := 8) (B := c.toInt) rfl rfl (by omega) (fun v32 e33 => to_in (pc := 70) rw_202_70 rfl (s_add (pc := 71) rw_202_71 (A := v32.toInt) (B := f.toInt) rfl rfl (by omega) (fun v34 e35 => s_ial (pc := 72) rw_202_72 hG26 rfl (n := 240) rfl rfl (A := v34.toInt) rfl (by omega) (by omega) (lo := -2147483648) (hi := 2147483647) rfl rfl (fun v36 w_37 _ _ => to_r0 (pc := 73) rw_202_73 ?_))))))))
                exact h v36 M27 hG26 F28 
              · refine to_an (pc := 47) rw_202_47 rfl (s_gR (pc := 48) rw_202_48 hG26 rfl (v := 98) rfl (to_in (pc := 51) rw_202_51 rfl (s_ial (pc := 52) rw_202_52 hG26 rfl (n := 30) rfl rfl (A := c.toInt) rfl (by omega) (by omega) (lo := -2147483648) (hi := 2147483647) rfl rfl (fun v38 w_39 _ _ => to_an (pc := 53) rw_202_53 rfl (to_in (pc := 54) rw_202_54 rfl (s_v (pc := 55) rw_202_55 (dp0 hd (by decide)) (ls0 := [.ref 77, .int f, .null, .null]) rfl (Nat.le_of_ble_eq_true rfl) (Nat.le_of_ble_eq_true rfl) rfl (to_rc rfl rfl rfl (g_o hG26 rfl)) rfl (C_201 hX (dp1 hd (by decide)) hG26 (f := f) (fun r40 M43 hG42 F41 => ?_))))))))
                have F44 := FR.c F28 F41 tg_264
                refine s_any (pc := 58) rw_202_58 (fun _ _ => rfl) (fun v45 => to_go (pc := 59) rw_202_59 (to_r0 (pc := 73) rw_202_73 ?_))
                exact h v45 M43 hG42 F44 
set_option maxRecDepth 4000 in
set_option maxHeartbeats 0 in
theorem C_203 {X : mm_X} {d : Nat} {M : mm_M} {Q : Option Value → mm_M → Prop} {c : Int32} (hX : g_X X) (hd : 1 ≤ d) (hG : g_G M) (h : ∀ (r : Int32) (M1 : mm_M), g_G M1 → FR md_tu M M1 → (0 ≤ r.toInt) → (r.toInt ≤ 1) → (r.toInt = 1 → 0 ≤ c.toInt ∧ c.toInt < (M.2.1 77 28).toInt) → (r.toInt = 0 → ¬ (0 ≤ c.toInt ∧ c.toInt < (M.2.1 77 28).toInt)) → Q (some (.int r)) M1) : mm_T X d 202 0 [.ref 77, .int c] [] M Q := by
  have F0 : FR md_tu M M := FR.rf
  refine to_an (pc := 0) rw_203_0 rfl (to_c (pc := 1) rw_203_1 (x := (0 : Int32)) rfl rfl (s_pI (pc := 2) rw_203_2 hG rfl (fun M2 W1 => ?_)))
  have hG3 := g_wf hG W1 rfl rfl (by decide)
  have F4 := FR.w F0 W1 (show 77 = 77 ∧ (2 = 2 ∨ 2 = 41) by decide)
  refine to_an (pc := 5) rw_203_5 rfl (to_in (pc := 6) rw_203_6 rfl (s_v (pc := 7) rw_203_7 (dp0 hd (by decide)) (ls0 := [.ref 77, .int c]) rfl (Nat.le_of_ble_eq_true rfl) (Nat.le_of_ble_eq_true rfl) rfl (to_rc rfl rfl rfl (g_o hG3 rfl)) rfl (to_in (pc := 0) rw_187_0 rfl (b_ilt (pc := 1) rw_187_1 (A := c.toInt) rfl (fun h5 => ?_) (fun h5 => ?_)))))
  · refine to_c (pc := 16) rw_187_16 (x := (0 : Int32)) rfl rfl (s_r1 (pc := 17) rw_187_17 (A := 0) rfl (by decide) (b_ine_f (pc := 10) rw_203_10 (A := 0) rfl (by decide) (to_c (pc := 13) rw_203_13 (x := (0 : Int32)) rfl rfl (s_r1 (pc := 14) rw_203_14 (A := 0) rfl (by decide) ?_))))
    have k_6 : (0 : Int32).toInt = 0 := rfl
    exact h (0 : Int32) M2 hG3 F4 (by decide) (by decide) (by omega) (by omega)
  · refine to_in (pc := 4) rw_187_4 rfl (to_an (pc := 5) rw_187_5 rfl ?_)
    have c_7 : M2.2.1 77 28 = (M.2.1 77 28) := (W_n W1 (by decide) rfl)
    have b_8 := g_b hG (a := 77) (i := 28) (lo := 0) (hi := 30) rfl rfl
    refine tt_gI (pc := 6) rw_187_6 (g_o hG3 rfl) (v := (M.2.1 77 28)) c_7 (b_cge (pc := 9) rw_187_9 (A := c.toInt) (B := (M.2.1 77 28).toInt) rfl rfl (fun h9 => ?_) (fun h9 => ?_))
    · refine to_c (pc := 16) rw_187_16 (x := (0 : Int32)) rfl rfl (s_r1 (pc := 17) rw_187_17 (A := 0) rfl (by decide) (b_ine_f (pc := 10) rw_203_10 (A := 0) rfl (by decide) (to_c (pc := 13) rw_203_13 (x := (0 : Int32)) rfl rfl (s_r1 (pc := 14) rw_203_14 (A := 0) rfl (by decide) ?_))))
      have k_10 : (0 : Int32).toInt = 0 := rfl
      exact h (0 : Int32) M2 hG3 F4 (by decide) (by decide) (by omega) (by omega)
    · refine to_c (pc := 12) rw_187_12 (x := (1 : Int32)) rfl rfl (to_go (pc := 13) rw_187_13 (s_r1 (pc := 17) rw_187_17 (A := 1) rfl (by decide) (b_ine_t (pc := 10) rw_203_10 (A := 1) rfl (by decide) (to_an (pc := 15) rw_203_15 rfl (to_dupr (pc := 16) rw_203_16 ?_)))))
      have c_11 : M2.2.1 77 41 = (M.2.1 77 41) := (W_n W1 (by decide) rfl)
      refine tt_gI (pc := 17) rw_203_17 (g_o hG3 rfl) (v := (M.2.1 77 41)) c_11 (to_c (pc := 20) rw_203_20 (x := (1 : Int32)) rfl rfl (to_in (pc := 21) rw_203_21 rfl (s_any (pc := 22) rw_203_22 (fun _ _ => rfl) (fun v12 => s_any (pc := 23) rw_203_23 (fun _ _ => rfl) (fun v13 => s_pI (pc := 24) rw_203_24 hG3 rfl (fun M15 W14 => ?_))))))
      have hG16 := g_wf hG3 W14 rfl rfl (by decide)
      have F17 := FR.w F4 W14 (show 77 = 77 ∧ (41 = 2 ∨ 41 = 41) by decide)
      refine to_c (pc := 27) rw_203_27 (x := (1 : Int32)) rfl rfl (s_r1 (pc := 28) rw_203_28 (A := 1) rfl (by decide) ?_)
      have k_18 : (1 : Int32).toInt = 1 := rfl
      exact h (1 : Int32) M15 hG16 F17 (by decide) (by decide) (by omega) (by omega)
set_option maxRecDepth 4000 in
set_option maxHeartbeats 0 in
theorem C_204 {X : mm_X} {d : Nat} {M : mm_M} {Q : Option Value → mm_M → Prop} (hX : g_X X) (hd : 0 ≤ d) (hG : g_G M) (h : ∀ (r : Int32) (M1 : mm_M), g_G M1 → FR md_2 M M1 → (r.toInt = (M.2.1 77 41).toInt) → Q (some (.int r)) M1) : mm_T X d 203 0 [.ref 77] [] M Q := by
  have F0 : FR md_2 M M := FR.rf
  refine to_an (pc := 0) rw_204_0 rfl (to_c (pc := 1) rw_204_1 (x := (0 : Int32)) rfl rfl (s_pI (pc := 2) rw_204_2 hG rfl (fun M2 W1 => ?_)))
  have hG3 := g_wf hG W1 rfl rfl (by decide)
  have F4 := FR.w F0 W1 (show 77 = 77 ∧ 2 = 2 by decide)
  refine to_an (pc := 5) rw_204_5 rfl ?_
  have c_5 : M2.2.1 77 41 = (M.2.1 77 41) := (W_n W1 (by decide) rfl)
  refine tt_gI (pc := 6) rw_204_6 (g_o hG3 rfl) (v := (M.2.1 77 41)) c_5 (to_r0 (pc := 9) rw_204_9 ?_)
  exact h (M.2.1 77 41) M2 hG3 F4 (by omega)
set_option maxRecDepth 4000 in
set_option maxHeartbeats 0 in
theorem C_206 {X : mm_X} {d : Nat} {M : mm_M} {Q : Option Value → mm_M → Prop} {p : Int32} {k : Int32} (hX : g_X X) (hd : 1 ≤ d) (hG : g_G M) (h : ∀ (r : Int32) (M1 : mm_M), g_G M1 → FR md_2 M M1 → Q (some (.int r)) M1) : mm_T X d 205 0 [.ref 77, .int p, .int k] [] M Q := by
  have F0 : FR md_2 M M := FR.rf
  refine to_an (pc := 0) rw_206_0 rfl (to_c (pc := 1) rw_206_1 (x := (0 : Int32)) rfl rfl (s_pI (pc := 2) rw_206_2 hG rfl (fun M2 W1 => ?_)))
  have hG3 := g_wf hG W1 rfl rfl (by decide)
  have F4 := FR.w F0 W1 (show 77 = 77 ∧ 2 = 2 by decide)
  refine to_in (pc := 5) rw_206_5 rfl (s_s (pc := 6) rw_206_6 (dp0 hd (by decide)) (ls0 := [.int p]) rfl (Nat.le_of_ble_eq_true rfl) (Nat.le_of_ble_eq_true rfl) rfl (to_rcs rfl rfl) rfl (to_in (pc := 0) rw_205_0 rfl (b_ilt (pc := 1) rw_205_1 (A := p.toInt) rfl (fun h5 => ?_) (fun h5 => ?_))))
  · refine to_c (pc := 14) rw_205_14 (x := (0 : Int32)) rfl rfl (s_r1 (pc := 15) rw_205_15 (A := 0) rfl (by decide) (b_ieq_t (pc := 9) rw_206_9 (A := 0) rfl (by decide) (to_c (pc := 40) rw_206_40 (x := (-1 : Int32)) rfl rfl (to_r0 (pc := 41) rw_206_41 ?_))))
    have k_6 : (-1 : Int32).toInt = -1 := rfl
    exact h (-1 : Int32) M2 hG3 F4 
  · refine to_in (pc := 4) rw_205_4 rfl (to_c (pc := 5) rw_205_5 (x := (6 : Int32)) rfl rfl (b_cge (pc := 7) rw_205_7 (A := p.toInt) (B := 6) rfl rfl (fun h7 => ?_) (fun h7 => ?_)))
    · refine to_c (pc := 14) rw_205_14 (x := (0 : Int32)) rfl rfl (s_r1 (pc := 15) rw_205_15 (A := 0) rfl (by decide) (b_ieq_t (pc := 9) rw_206_9 (A := 0) rfl (by decide) (to_c (pc := 40) rw_206_40 (x := (-1 : Int32)) rfl rfl (to_r0 (pc := 41) rw_206_41 ?_))))
      have k_8 : (-1 : Int32).toInt = -1 := rfl
      exact h (-1 : Int32) M2 hG3 F4 
    · refine to_c (pc := 10) rw_205_10 (x := (1 : Int32)) rfl rfl (to_go (pc := 11) rw_205_11 (s_r1 (pc := 15) rw_205_15 (A := 1) rfl (by decide) (b_ieq_f (pc := 9) rw_206_9 (A := 1) rfl (by decide) (to_in (pc := 12) rw_206_12 rfl (b_ilt (pc := 13) rw_206_13 (A := k.toInt) rfl (fun h9 => ?_) (fun h9 => ?_))))))
      · refine to_c (pc := 40) rw_206_40 (x := (-1 : Int32)) rfl rfl (to_r0 (pc := 41) rw_206_41 ?_)
        have k_10 : (-1 : Int32).toInt = -1 := rfl
        exact h (-1 : Int32) M2 hG3 F4 
      · refine to_in (pc := 16) rw_206_16 rfl (to_an (pc := 17) rw_206_17 rfl (s_gR (pc := 18) rw_206_18 hG3 rfl (v := 100) rfl (to_in (pc := 21) rw_206_21 rfl (s_ial (pc := 22) rw_206_22 hG3 rfl (n := 6) rfl rfl (A := p.toInt) rfl (by omega) (by omega) (lo := 0) (hi := 30) rfl rfl (fun v11 w_12 _ _ => b_cge (pc := 23) rw_206_23 (A := k.toInt) (B := v11.toInt) rfl rfl (fun h13 => ?_) (fun h13 => ?_))))))
        · refine to_c (pc := 40) rw_206_40 (x := (-1 : Int32)) rfl rfl (to_r0 (pc := 41) rw_206_41 ?_)
          have k_14 : (-1 : Int32).toInt = -1 := rfl
          exact h (-1 : Int32) M2 hG3 F4 
        · refine to_an (pc := 26) rw_206_26 rfl (s_gR (pc := 27) rw_206_27 hG3 rfl (v := 99) rfl (to_c (pc := 30) rw_206_30 (x := (30 : Int32)) rfl rfl (to_in (pc := 32) rw_206_32 rfl (s_mul (pc := 33) rw_206_33 (A := 30) (B := p.toInt) rfl rfl (by omega) (fun v15 e16 => to_in (pc := 34) rw_206_34 rfl (s_add (pc := 35) rw_206_35 (A := v15.toInt) (B := k.toInt) rfl rfl (by omega) (fun v17 e18 => s_ial (pc := 36) rw_206_36 hG3 rfl (n := 180) rfl rfl (A := v17.toInt) rfl (by omega) (by omega) (lo := 0) (hi := 29) rfl rfl (fun v19 w_20 _ _ => to_go (pc := 37) rw_206_37 (to_r0 (pc := 41) rw_206_41 ?_)))))))))
          exact h v19 M2 hG3 F4 
set_option maxRecDepth 4000 in
set_option maxHeartbeats 0 in
theorem T_207_0 {X : mm_X} {d : Nat} {M : mm_M} {Q : Option Value → mm_M → Prop} {c : Int32} {x : Int64} (hX : g_X X) (hd : 1 ≤ d) (q1 : 0 ≤ c.toInt) (q2 : c.toInt ≤ 29) (h : ∀ (r : Int32) (M1 : mm_M), g_G M1 → FR md_0 M M1 → (0 ≤ r.toInt) → (r.toInt ≤ 1) → Q (some (.int r)) M1) : ∀ nn9 : Nat, (∀ (N : mm_M) (x4 : Int32), g_G N → FR md_0 M N → (0 ≤ x4.toInt) → (x4.toInt ≤ 60) → 60 - x4.toInt < (nn9 : Int) → mm_T X d 206 3 [.ref 77, .int c, .long x, .null, .int x4] [] N Q) := by
  intro nn9
  induction nn9 with
  | zero =>
    intro N x4 hG F0 g1 g2 hm
    exfalso; omega
  | succ nn9 ih =>
    intro N x4 hG F0 g1 g2 hm
    refine to_i (pc := 3) rw_207_3 rfl (to_an (pc := 5) rw_207_5 rfl ?_)
    have b_1 := g_b hG (a := 77) (i := 11) (lo := 10) (hi := 60) rfl rfl
    refine tt_gI (pc := 6) rw_207_6 (g_o hG rfl) (v := (N.2.1 77 11)) rfl (b_cge (pc := 9) rw_207_9 (A := x4.toInt) (B := (N.2.1 77 11).toInt) rfl rfl (fun h2 => ?_) (fun h2 => ?_))
    · refine to_c (pc := 67) rw_207_67 (x := (1 : Int32)) rfl rfl (s_r1 (pc := 68) rw_207_68 (A := 1) rfl (by decide) ?_)
      have k_3 : (1 : Int32).toInt = 1 := rfl
      exact h (1 : Int32) N hG F0 (by decide) (by decide)
    · refine to_ln (pc := 12) rw_207_12 rfl rfl rfl (to_i (pc := 13) rw_207_13 rfl (s_s (pc := 15) rw_207_15 (dp0 hd (by decide)) (ls0 := [.long x, .null, .int x4]) rfl (Nat.le_of_ble_eq_true rfl) (Nat.le_of_ble_eq_true rfl) rfl (to_rcs rfl rfl) rfl (to_ln (pc := 0) rw_150_0 rfl rfl rfl (to_in (pc := 1) rw_150_1 rfl (s_anyS (pc := 2) rw_150_2 (fun _ _ => rfl) (fun l4 => s_cl (pc := 3) rw_150_3 rfl (fun l5 => s_anyL (pc := 4) rw_150_4 (fun _ _ => rfl) (fun l6 => s_cl (pc := 5) rw_150_5 rfl (fun l7 => s_lcmp (pc := 6) rw_150_6 (fun v8 => b_ine (pc := 7) rw_150_7 (A := v8.toInt) rfl (fun h9 => ?_) (fun h9 => ?_)))))))))))
      · refine to_c (pc := 14) rw_150_14 (x := (0 : Int32)) rfl rfl (s_r1 (pc := 15) rw_150_15 (A := 0) rfl (by decide) (b_ieq_t (pc := 18) rw_207_18 (A := 0) rfl (by decide) (s_inc (pc := 61) rw_207_61 (ls2 := fun v => [.ref 77, .int c, .long x, .null, .int v]) rfl rfl (fun _ => rfl) (A := x4.toInt) (B := 1) rfl rfl (by omega) (fun v10 e11 => to_go (pc := 64) rw_207_64 ?_))))
        exact ih N v10 hG F0 (by omega) (by omega) (by omega)
      · refine to_c (pc := 10) rw_150_10 (x := (1 : Int32)) rfl rfl (to_go (pc := 11) rw_150_11 (s_r1 (pc := 15) rw_150_15 (A := 1) rfl (by decide) (b_ieq_f (pc := 18) rw_207_18 (A := 1) rfl (by decide) (to_an (pc := 21) rw_207_21 rfl (s_gR (pc := 22) rw_207_22 hG rfl (v := 96) rfl (to_in (pc := 25) rw_207_25 rfl (s_lal (pc := 26) rw_207_26 hG rfl (n := 30) rfl (A := c.toInt) rfl (by omega) (by omega) (fun l12 => to_an (pc := 27) rw_207_27 rfl (tt_gI (pc := 28) rw_207_28 (g_o hG rfl) (v := (N.2.1 77 41)) rfl (to_in (pc := 31) rw_207_31 rfl (s_any (pc := 32) rw_207_32 (fun _ _ => rfl) (fun v13 => ?_))))))))))))
        refine to_c (pc := 33) rw_207_33 (x := (1 : Int32)) rfl rfl (s_and (pc := 34) rw_207_34 (B := 1) rfl (by omega) (fun v14 e15 _ _ => to_c (pc := 35) rw_207_35 (x := (1 : Int32)) rfl rfl (b_cne (pc := 36) rw_207_36 (A := v14.toInt) (B := 1) rfl rfl (fun h16 => ?_) (fun h16 => ?_))))
        · refine to_i (pc := 51) rw_207_51 rfl (s_s (pc := 53) rw_207_53 (dp0 hd (by decide)) (ls0 := [.long l12, .null, .int x4]) rfl (Nat.le_of_ble_eq_true rfl) (Nat.le_of_ble_eq_true rfl) rfl (to_rcs rfl rfl) rfl (to_ln (pc := 0) rw_150_0 rfl rfl rfl (to_in (pc := 1) rw_150_1 rfl (s_anyS (pc := 2) rw_150_2 (fun _ _ => rfl) (fun l17 => s_cl (pc := 3) rw_150_3 rfl (fun l18 => s_anyL (pc := 4) rw_150_4 (fun _ _ => rfl) (fun l19 => s_cl (pc := 5) rw_150_5 rfl (fun l20 => s_lcmp (pc := 6) rw_150_6 (fun v21 => b_ine (pc := 7) rw_150_7 (A := v21.toInt) rfl (fun h22 => ?_) (fun h22 => ?_))))))))))
          · refine to_c (pc := 14) rw_150_14 (x := (0 : Int32)) rfl rfl (s_r1 (pc := 15) rw_150_15 (A := 0) rfl (by decide) (b_ine_f (pc := 56) rw_207_56 (A := 0) rfl (by decide) (to_c (pc := 59) rw_207_59 (x := (0 : Int32)) rfl rfl (s_r1 (pc := 60) rw_207_60 (A := 0) rfl (by decide) ?_))))
            have k_23 : (0 : Int32).toInt = 0 := rfl
            exact h (0 : Int32) N hG F0 (by decide) (by decide)
          · refine to_c (pc := 10) rw_150_10 (x := (1 : Int32)) rfl rfl (to_go (pc := 11) rw_150_11 (s_r1 (pc := 15) rw_150_15 (A := 1) rfl (by decide) (b_ine_t (pc := 56) rw_207_56 (A := 1) rfl (by decide) (s_inc (pc := 61) rw_207_61 (ls2 := fun v => [.ref 77, .int c, .long x, .null, .int v]) rfl rfl (fun _ => rfl) (A := x4.toInt) (B := 1) rfl rfl (by omega) (fun v24 e25 => to_go (pc := 64) rw_207_64 ?_)))))
            exact ih N v24 hG F0 (by omega) (by omega) (by omega)
        · refine to_an (pc := 39) rw_207_39 rfl (tt_gI (pc := 40) rw_207_40 (g_o hG rfl) (v := (N.2.1 77 11)) rfl (to_c (pc := 43) rw_207_43 (x := (1 : Int32)) rfl rfl (s_sub (pc := 44) rw_207_44 (A := (N.2.1 77 11).toInt) (B := 1) rfl rfl (by omega) (fun v26 e27 => to_i (pc := 45) rw_207_45 rfl (s_sub (pc := 47) rw_207_47 (A := v26.toInt) (B := x4.toInt) rfl rfl (by omega) (fun v28 e29 => to_go (pc := 48) rw_207_48 (s_s (pc := 53) rw_207_53 (dp0 hd (by decide)) (ls0 := [.long l12, .null, .int v28]) rfl (Nat.le_of_ble_eq_true rfl) (Nat.le_of_ble_eq_true rfl) rfl (to_rcs rfl rfl) rfl (to_ln (pc := 0) rw_150_0 rfl rfl rfl (to_in (pc := 1) rw_150_1 rfl (s_anyS (pc := 2) rw_150_2 (fun _ _ => rfl) (fun l30 => s_cl (pc := 3) rw_150_3 rfl (fun l31 => ?_))))))))))))
          refine s_anyL (pc := 4) rw_150_4 (fun _ _ => rfl) (fun l32 => s_cl (pc := 5) rw_150_5 rfl (fun l33 => s_lcmp (pc := 6) rw_150_6 (fun v34 => b_ine (pc := 7) rw_150_7 (A := v34.toInt) rfl (fun h35 => ?_) (fun h35 => ?_))))
          · refine to_c (pc := 14) rw_150_14 (x := (0 : Int32)) rfl rfl (s_r1 (pc := 15) rw_150_15 (A := 0) rfl (by decide) (b_ine_f (pc := 56) rw_207_56 (A := 0) rfl (by decide) (to_c (pc := 59) rw_207_59 (x := (0 : Int32)) rfl rfl (s_r1 (pc := 60) rw_207_60 (A := 0) rfl (by decide) ?_))))
            have k_36 : (0 : Int32).toInt = 0 := rfl
            exact h (0 : Int32) N hG F0 (by decide) (by decide)
          · refine to_c (pc := 10) rw_150_10 (x := (1 : Int32)) rfl rfl (to_go (pc := 11) rw_150_11 (s_r1 (pc := 15) rw_150_15 (A := 1) rfl (by decide) (b_ine_t (pc := 56) rw_207_56 (A := 1) rfl (by decide) (s_inc (pc := 61) rw_207_61 (ls2 := fun v => [.ref 77, .int c, .long x, .null, .int v]) rfl rfl (fun _ => rfl) (A := x4.toInt) (B := 1) rfl rfl (by omega) (fun v37 e38 => to_go (pc := 64) rw_207_64 ?_)))))
            exact ih N v37 hG F0 (by omega) (by omega) (by omega)
set_option maxRecDepth 4000 in
set_option maxHeartbeats 0 in
theorem C_207 {X : mm_X} {d : Nat} {M : mm_M} {Q : Option Value → mm_M → Prop} {c : Int32} {x : Int64} (hX : g_X X) (hd : 1 ≤ d) (hG : g_G M) (q1 : 0 ≤ c.toInt) (q2 : c.toInt ≤ 29) (h : ∀ (r : Int32) (M1 : mm_M), g_G M1 → FR md_0 M M1 → (0 ≤ r.toInt) → (r.toInt ≤ 1) → Q (some (.int r)) M1) : mm_T X d 206 0 [.ref 77, .int c, .long x, .null, .null] [] M Q := by
  have F0 : FR md_0 M M := FR.rf
  refine to_c (pc := 0) rw_207_0 (x := (0 : Int32)) rfl rfl (to_is (pc := 1) rw_207_1 (ls2 := [.ref 77, .int c, .long x, .null, .int (0 : Int32)]) rfl rfl ?_)
  have k_39 : (0 : Int32).toInt = 0 := rfl
  exact (T_207_0 (c := c) (x := x) hX hd q1 q2 h ((60 - (0 : Int32).toInt).toNat + 1)) M (0 : Int32) hG F0 (by omega) (by omega) (by omega)
set_option maxRecDepth 4000 in
set_option maxHeartbeats 0 in
theorem T_208_0 {X : mm_X} {d : Nat} {M : mm_M} {Q : Option Value → mm_M → Prop} {p : Int32} {x : Int64} (hX : g_X X) (hd : 3 ≤ d) (q1 : NJ M) (h : ∀ (r : Int32) (M1 : mm_M), g_G M1 → FR md_k2 M M1 → Q (some (.int r)) M1) : ∀ nn9 : Nat, (∀ (N : mm_M) (x4 : Int32) (x5 : Int32), g_G N → FR md_k2 M N → (0 ≤ x5.toInt) → (x5.toInt ≤ 30) → (0 ≤ p.toInt) → (p.toInt ≤ 5) → 30 - x5.toInt < (nn9 : Int) → mm_T X d 207 28 [.ref 77, .int p, .long x, .null, .int x4, .int x5] [] N Q) := by
  intro nn9
  induction nn9 with
  | zero =>
    intro N x4 x5 hG F0 g1 g2 g3 g4 hm
    exfalso; omega
  | succ nn9 ih =>
    intro N x4 x5 hG F0 g1 g2 g3 g4 hm
    refine to_i (pc := 28) rw_208_28 rfl (to_an (pc := 30) rw_208_30 rfl (s_gR (pc := 31) rw_208_31 hG rfl (v := 100) rfl (to_in (pc := 34) rw_208_34 rfl (s_ial (pc := 35) rw_208_35 hG rfl (n := 6) rfl rfl (A := p.toInt) rfl (by omega) (by omega) (lo := 0) (hi := 30) rfl rfl (fun v1 w_2 _ _ => b_cge (pc := 36) rw_208_36 (A := x5.toInt) (B := v1.toInt) rfl rfl (fun h3 => ?_) (fun h3 => ?_))))))
    · refine to_i (pc := 88) rw_208_88 rfl (to_r0 (pc := 90) rw_208_90 ?_)
      exact h x4 N hG F0 
    · refine to_i (pc := 39) rw_208_39 rfl (to_an (pc := 41) rw_208_41 rfl (to_an (pc := 42) rw_208_42 rfl (s_gR (pc := 43) rw_208_43 hG rfl (v := 99) rfl (to_c (pc := 46) rw_208_46 (x := (30 : Int32)) rfl rfl (to_in (pc := 48) rw_208_48 rfl (s_mul (pc := 49) rw_208_49 (A := 30) (B := p.toInt) rfl rfl (by omega) (fun v4 e5 => to_i (pc := 50) rw_208_50 rfl (s_add (pc := 52) rw_208_52 (A := v4.toInt) (B := x5.toInt) rfl rfl (by omega) (fun v6 e7 => s_ial (pc := 53) rw_208_53 hG rfl (n := 180) rfl rfl (A := v6.toInt) rfl (by omega) (by omega) (lo := 0) (hi := 29) rfl rfl (fun v8 w_9 _ _ => to_ln (pc := 54) rw_208_54 rfl rfl rfl (s_v (pc := 55) rw_208_55 (dp0 hd (by decide)) (ls0 := [.ref 77, .int v8, .long x, .null, .null]) rfl (Nat.le_of_ble_eq_true rfl) (Nat.le_of_ble_eq_true rfl) rfl (to_rc rfl rfl rfl (g_o hG rfl)) rfl ?_)))))))))))
      refine C_207 hX (dp1 hd (by decide)) hG (by omega) (by omega) (c := v8) (x := x) (fun r10 M15 hG12 F11 p_13 p_14 => ?_)
      have F16 := FR.c F0 F11 tg_264
      refine b_ieq (pc := 58) rw_208_58 (A := r10.toInt) rfl (fun h17 => ?_) (fun h17 => ?_)
      · refine to_c (pc := 78) rw_208_78 (x := (0 : Int32)) rfl rfl (s_any (pc := 79) rw_208_79 (fun _ _ => rfl) (fun v18 => to_is (pc := 80) rw_208_80 (ls2 := [.ref 77, .int p, .long x, .null, .int v18, .int x5]) rfl rfl (s_inc (pc := 82) rw_208_82 (ls2 := fun v => [.ref 77, .int p, .long x, .null, .int v18, .int v]) rfl rfl (fun _ => rfl) (A := x5.toInt) (B := 1) rfl rfl (by omega) (fun v19 e20 => to_go (pc := 85) rw_208_85 ?_))))
        exact ih M15 v18 v19 hG12 F16 (by omega) (by omega) (by omega) (by omega) (by omega)
      · refine to_c (pc := 61) rw_208_61 (x := (1 : Int32)) rfl rfl (to_an (pc := 62) rw_208_62 rfl (s_gR (pc := 63) rw_208_63 hG12 rfl (v := 99) rfl (to_c (pc := 66) rw_208_66 (x := (30 : Int32)) rfl rfl (to_in (pc := 68) rw_208_68 rfl (s_mul (pc := 69) rw_208_69 (A := 30) (B := p.toInt) rfl rfl (by omega) (fun v21 e22 => to_i (pc := 70) rw_208_70 rfl (s_add (pc := 72) rw_208_72 (A := v21.toInt) (B := x5.toInt) rfl rfl (by omega) (fun v23 e24 => s_ial (pc := 73) rw_208_73 hG12 rfl (n := 180) rfl rfl (A := v23.toInt) rfl (by omega) (by omega) (lo := 0) (hi := 29) rfl rfl (fun v25 w_26 _ _ => s_any (pc := 74) rw_208_74 (fun _ _ => rfl) (fun v27 => to_go (pc := 75) rw_208_75 (s_any (pc := 79) rw_208_79 (fun _ _ => rfl) (fun v28 => ?_))))))))))))
        refine to_is (pc := 80) rw_208_80 (ls2 := [.ref 77, .int p, .long x, .null, .int v28, .int x5]) rfl rfl (s_inc (pc := 82) rw_208_82 (ls2 := fun v => [.ref 77, .int p, .long x, .null, .int v28, .int v]) rfl rfl (fun _ => rfl) (A := x5.toInt) (B := 1) rfl rfl (by omega) (fun v29 e30 => to_go (pc := 85) rw_208_85 ?_))
        exact ih M15 v28 v29 hG12 F16 (by omega) (by omega) (by omega) (by omega) (by omega)
set_option maxRecDepth 4000 in
set_option maxHeartbeats 0 in
theorem C_208 {X : mm_X} {d : Nat} {M : mm_M} {Q : Option Value → mm_M → Prop} {p : Int32} {x : Int64} (hX : g_X X) (hd : 3 ≤ d) (hG : g_G M) (q1 : NJ M) (h : ∀ (r : Int32) (M1 : mm_M), g_G M1 → FR md_k2 M M1 → Q (some (.int r)) M1) : mm_T X d 207 0 [.ref 77, .int p, .long x, .null, .null, .null] [] M Q := by
  have F0 : FR md_k2 M M := FR.rf
  refine to_an (pc := 0) rw_208_0 rfl (to_c (pc := 1) rw_208_1 (x := (0 : Int32)) rfl rfl (s_pI (pc := 2) rw_208_2 hG rfl (fun M32 W31 => ?_)))
  have hG33 := g_wf hG W31 rfl rfl (by decide)
  have F34 := FR.w F0 W31 (show 77 = 77 ∧ 2 = 2 ∨ 94 ≤ 77 ∧ 77 ≤ 98 by decide)
  refine to_in (pc := 5) rw_208_5 rfl (s_s (pc := 6) rw_208_6 (dp0 hd (by decide)) (ls0 := [.int p]) rfl (Nat.le_of_ble_eq_true rfl) (Nat.le_of_ble_eq_true rfl) rfl (to_rcs rfl rfl) rfl (to_in (pc := 0) rw_205_0 rfl (b_ilt (pc := 1) rw_205_1 (A := p.toInt) rfl (fun h35 => ?_) (fun h35 => ?_))))
  · refine to_c (pc := 14) rw_205_14 (x := (0 : Int32)) rfl rfl (s_r1 (pc := 15) rw_205_15 (A := 0) rfl (by decide) (b_ine_f (pc := 9) rw_208_9 (A := 0) rfl (by decide) (to_c (pc := 12) rw_208_12 (x := (-1 : Int32)) rfl rfl (to_r0 (pc := 13) rw_208_13 ?_))))
    have k_36 : (-1 : Int32).toInt = -1 := rfl
    exact h (-1 : Int32) M32 hG33 F34 
  · refine to_in (pc := 4) rw_205_4 rfl (to_c (pc := 5) rw_205_5 (x := (6 : Int32)) rfl rfl (b_cge (pc := 7) rw_205_7 (A := p.toInt) (B := 6) rfl rfl (fun h37 => ?_) (fun h37 => ?_)))
    · refine to_c (pc := 14) rw_205_14 (x := (0 : Int32)) rfl rfl (s_r1 (pc := 15) rw_205_15 (A := 0) rfl (by decide) (b_ine_f (pc := 9) rw_208_9 (A := 0) rfl (by decide) (to_c (pc := 12) rw_208_12 (x := (-1 : Int32)) rfl rfl (to_r0 (pc := 13) rw_208_13 ?_))))
      have k_38 : (-1 : Int32).toInt = -1 := rfl
      exact h (-1 : Int32) M32 hG33 F34 
    · refine to_c (pc := 10) rw_205_10 (x := (1 : Int32)) rfl rfl (to_go (pc := 11) rw_205_11 (s_r1 (pc := 15) rw_205_15 (A := 1) rfl (by decide) (b_ine_t (pc := 9) rw_208_9 (A := 1) rfl (by decide) (to_an (pc := 14) rw_208_14 rfl (to_an (pc := 15) rw_208_15 rfl ?_)))))
      have c_39 : M32.2.1 77 29 = (M.2.1 77 29) := (W_n W31 (by decide) rfl)
      have b_40 := g_b hG (a := 77) (i := 29) (lo := 0) (hi := 150) rfl rfl
      refine tt_gI (pc := 16) rw_208_16 (g_o hG33 rfl) (v := (M.2.1 77 29)) c_39 (s_v (pc := 19) rw_208_19 (dp0 hd (by decide)) (ls0 := [.ref 77, .int (M.2.1 77 29), .null, .null]) rfl (Nat.le_of_ble_eq_true rfl) (Nat.le_of_ble_eq_true rfl) rfl (to_rc rfl rfl rfl (g_o hG33 rfl)) rfl ?_)
      have t_41 : (M32.2.1 77 29).toInt = (M.2.1 77 29).toInt := congrArg Int32.toInt c_39
      have j_42 := (NJ_f (fun a i z => W_n W31 (by /-r77,2-/ omega) rfl) q1)
      refine C_189 hX (dp1 hd (by decide)) hG33 (by omega) (by omega) (by omega) j_42 (n := (M.2.1 77 29)) (fun M45 hG44 F43 => ?_)
      have F46 := FR.c F34 F43 tg_263
      refine to_c (pc := 22) rw_208_22 (x := (0 : Int32)) rfl rfl (to_is (pc := 23) rw_208_23 (ls2 := [.ref 77, .int p, .long x, .null, .int (0 : Int32), .null]) rfl rfl (to_c (pc := 25) rw_208_25 (x := (0 : Int32)) rfl rfl (to_is (pc := 26) rw_208_26 (ls2 := [.ref 77, .int p, .long x, .null, .int (0 : Int32), .int (0 : Int32)]) rfl rfl ?_)))
      have k_47 : (0 : Int32).toInt = 0 := rfl
      exact (T_208_0 (p := p) (x := x) hX hd q1 h ((30 - (0 : Int32).toInt).toNat + 1)) M45 (0 : Int32) (0 : Int32) hG44 F46 (by omega) (by omega) (by omega) (by omega) (by omega)
set_option maxRecDepth 4000 in
set_option maxHeartbeats 0 in
theorem C_246 {X : mm_X} {d : Nat} {M : mm_M} {Q : Option Value → mm_M → Prop} {w : Int32} (hX : g_X X) (hd : 0 ≤ d) (hG : g_G M) (h : ∀ (r : Int32) (M1 : mm_M), g_G M1 → FR md_2 M M1 → Q (some (.int r)) M1) : mm_T X d 245 0 [.ref 77, .int w] [] M Q := by
  have F0 : FR md_2 M M := FR.rf
  refine to_an (pc := 0) rw_246_0 rfl (to_c (pc := 1) rw_246_1 (x := (0 : Int32)) rfl rfl (s_pI (pc := 2) rw_246_2 hG rfl (fun M2 W1 => ?_)))
  have hG3 := g_wf hG W1 rfl rfl (by decide)
  have F4 := FR.w F0 W1 (show 77 = 77 ∧ 2 = 2 by decide)
  refine to_in (pc := 5) rw_246_5 rfl ?_
  rcases (show w.toInt = 0 ∨ w.toInt = 1 ∨ w.toInt = 2 ∨ w.toInt = 3 ∨ w.toInt = 4 ∨ w.toInt = 5 ∨ w.toInt = 6 ∨ w.toInt = 7 ∨ (w.toInt < 0 ∨ 7 < w.toInt) by omega) with h5 | h5 | h5 | h5 | h5 | h5 | h5 | h5 | h5
  · refine s_sw (pc := 6) rw_246_6 (A := w.toInt) (k := 0) (t := 52) rfl h5 (by decide) rfl (to_an (pc := 52) rw_246_52 rfl ?_)
    have c_6 : M2.2.1 77 11 = (M.2.1 77 11) := (W_n W1 (by decide) rfl)
    have b_7 := g_b hG (a := 77) (i := 11) (lo := 10) (hi := 60) rfl rfl
    refine tt_gI (pc := 53) rw_246_53 (g_o hG3 rfl) (v := (M.2.1 77 11)) c_6 (to_r0 (pc := 56) rw_246_56 ?_)
    exact h (M.2.1 77 11) M2 hG3 F4 
  · refine s_sw (pc := 6) rw_246_6 (A := w.toInt) (k := 1) (t := 57) rfl h5 (by decide) rfl (to_an (pc := 57) rw_246_57 rfl ?_)
    have c_8 : M2.2.1 77 12 = (M.2.1 77 12) := (W_n W1 (by decide) rfl)
    have b_9 := g_b hG (a := 77) (i := 12) (lo := 0) (hi := 8) rfl rfl
    refine tt_gI (pc := 58) rw_246_58 (g_o hG3 rfl) (v := (M.2.1 77 12)) c_8 (to_r0 (pc := 61) rw_246_61 ?_)
    exact h (M.2.1 77 12) M2 hG3 F4 
  · refine s_sw (pc := 6) rw_246_6 (A := w.toInt) (k := 2) (t := 62) rfl h5 (by decide) rfl (to_an (pc := 62) rw_246_62 rfl ?_)
    have c_10 : M2.2.1 77 13 = (M.2.1 77 13) := (W_n W1 (by decide) rfl)
    have b_11 := g_b hG (a := 77) (i := 13) (lo := 0) (hi := 12) rfl rfl
    refine tt_gI (pc := 63) rw_246_63 (g_o hG3 rfl) (v := (M.2.1 77 13)) c_10 (to_r0 (pc := 66) rw_246_66 ?_)
    exact h (M.2.1 77 13) M2 hG3 F4 
  · refine s_sw (pc := 6) rw_246_6 (A := w.toInt) (k := 3) (t := 67) rfl h5 (by decide) rfl (to_an (pc := 67) rw_246_67 rfl ?_)
    have c_12 : M2.2.1 77 28 = (M.2.1 77 28) := (W_n W1 (by decide) rfl)
    have b_13 := g_b hG (a := 77) (i := 28) (lo := 0) (hi := 30) rfl rfl
    refine tt_gI (pc := 68) rw_246_68 (g_o hG3 rfl) (v := (M.2.1 77 28)) c_12 (to_r0 (pc := 71) rw_246_71 ?_)
    exact h (M.2.1 77 28) M2 hG3 F4 
  · refine s_sw (pc := 6) rw_246_6 (A := w.toInt) (k := 4) (t := 72) rfl h5 (by decide) rfl (to_an (pc := 72) rw_246_72 rfl ?_)
    have c_14 : M2.2.1 77 29 = (M.2.1 77 29) := (W_n W1 (by decide) rfl)
    have b_15 := g_b hG (a := 77) (i := 29) (lo := 0) (hi := 150) rfl rfl
    refine tt_gI (pc := 73) rw_246_73 (g_o hG3 rfl) (v := (M.2.1 77 29)) c_14 (to_r0 (pc := 76) rw_246_76 ?_)
    exact h (M.2.1 77 29) M2 hG3 F4 
  · refine s_sw (pc := 6) rw_246_6 (A := w.toInt) (k := 5) (t := 77) rfl h5 (by decide) rfl (to_an (pc := 77) rw_246_77 rfl ?_)
    have c_16 : M2.2.1 77 58 = (M.2.1 77 58) := (W_n W1 (by decide) rfl)
    have b_17 := g_b hG (a := 77) (i := 58) (lo := 0) (hi := 40) rfl rfl
    refine tt_gI (pc := 78) rw_246_78 (g_o hG3 rfl) (v := (M.2.1 77 58)) c_16 (to_r0 (pc := 81) rw_246_81 ?_)
    exact h (M.2.1 77 58) M2 hG3 F4 
  · refine s_sw (pc := 6) rw_246_6 (A := w.toInt) (k := 6) (t := 82) rfl h5 (by decide) rfl (to_an (pc := 82) rw_246_82 rfl ?_)
    have c_18 : M2.2.1 77 42 = (M.2.1 77 42) := (W_n W1 (by decide) rfl)
    refine tt_gI (pc := 83) rw_246_83 (g_o hG3 rfl) (v := (M.2.1 77 42)) c_18 (to_r0 (pc := 86) rw_246_86 ?_)
    exact h (M.2.1 77 42) M2 hG3 F4 
  · refine s_sw (pc := 6) rw_246_6 (A := w.toInt) (k := 7) (t := 87) rfl h5 (by decide) rfl (to_an (pc := 87) rw_246_87 rfl ?_)
    have c_19 : M2.2.1 77 43 = (M.2.1 77 43) := (W_n W1 (by decide) rfl)
    have b_20 := g_b hG (a := 77) (i := 43) (lo := 0) (hi := 3000) rfl rfl
    refine tt_gI (pc := 88) rw_246_88 (g_o hG3 rfl) (v := (M.2.1 77 43)) c_19 (to_r0 (pc := 91) rw_246_91 ?_)
    exact h (M.2.1 77 43) M2 hG3 F4 
  · refine s_swd (pc := 6) rw_246_6 (A := w.toInt) rfl h5 (to_c (pc := 92) rw_246_92 (x := (-1 : Int32)) rfl rfl (to_r0 (pc := 93) rw_246_93 ?_))
    have k_21 : (-1 : Int32).toInt = -1 := rfl
    exact h (-1 : Int32) M2 hG3 F4 
end
section
theorem tg_265 : ∀ a i : Nat, (a < 0) → (a = 77 ∧ i = 42 ∨ a = 99 ∨ a = 100 ∨ a = 109) := fun a i z => by omega
theorem tg_266 : ∀ a i : Nat, (a = 99 ∨ a = 100) → (a = 77 ∧ i = 42 ∨ a = 99 ∨ a = 100 ∨ a = 109) := fun a i z => by omega
theorem tg_267 : ∀ a i : Nat, (a = 99 ∨ a = 100) → (a = 99 ∨ a = 100) := fun a i z => by omega
theorem tg_268 : ∀ a i : Nat, (a = 100 ∨ a = 77 ∧ i = 28) → ¬ (a = 77 ∧ i = 41) := fun a i z => by omega
theorem tg_269 : ∀ a i j : Nat, (a = 100 ∨ a = 77 ∧ i = 28) → ¬ (a = 109 ∧ i = j) := fun a i j z => by omega
set_option maxRecDepth 4000 in
set_option maxHeartbeats 0 in
theorem C_193 {X : mm_X} {d : Nat} {M : mm_M} {Q : Option Value → mm_M → Prop} (hX : g_X X) (hd : 0 ≤ d) (hG : g_G M) (q1 : PS M) (h : ∀ (r : Int32) (M1 : mm_M), g_G M1 → FR md_cd M M1 → (30 ≤ (M.2.1 77 28).toInt → r.toInt = -1 ∧ (M1.2.1 77 28).toInt = (M.2.1 77 28).toInt) → ((M.2.1 77 28).toInt < 30 → r.toInt = (M.2.1 77 28).toInt ∧ (M1.2.1 77 28).toInt = (M.2.1 77 28).toInt + 1) → PS M1 → Q (some (.int r)) M1) : mm_T X d 192 0 [.ref 77] [] M Q := by
  have F0 : FR md_cd M M := FR.rf
  refine to_an (pc := 0) rw_193_0 rfl (to_c (pc := 1) rw_193_1 (x := (0 : Int32)) rfl rfl (s_pI (pc := 2) rw_193_2 hG rfl (fun M2 W1 => ?_)))
  have hG3 := g_wf hG W1 rfl rfl (by decide)
  have F4 := FR.w F0 W1 (show 77 = 77 ∧ (2 = 2 ∨ 2 = 28) ∨ 77 = 99 ∨ 77 = 100 by decide)
  refine to_an (pc := 5) rw_193_5 rfl ?_
  have c_5 : M2.2.1 77 28 = (M.2.1 77 28) := (W_n W1 (by decide) rfl)
  have b_6 := g_b hG (a := 77) (i := 28) (lo := 0) (hi := 30) rfl rfl
  refine tt_gI (pc := 6) rw_193_6 (g_o hG3 rfl) (v := (M.2.1 77 28)) c_5 (to_c (pc := 9) rw_193_9 (x := (30 : Int32)) rfl rfl (b_cne (pc := 11) rw_193_11 (A := (M.2.1 77 28).toInt) (B := 30) rfl rfl (fun h7 => ?_) (fun h7 => ?_)))
  · refine to_an (pc := 16) rw_193_16 rfl (s_gR (pc := 17) rw_193_17 hG3 rfl (v := 99) rfl (to_an (pc := 20) rw_193_20 rfl (s_gR (pc := 21) rw_193_21 hG3 rfl (v := 100) rfl (to_c (pc := 24) rw_193_24 (x := (0 : Int32)) rfl rfl (s_ial (pc := 25) rw_193_25 hG3 rfl (n := 6) rfl rfl (A := 0) rfl (by omega) (by omega) (lo := 0) (hi := 30) rfl rfl (fun v8 w_9 _ _ => ?_))))))
    have j_10 := (PS_f (fun a i z => W_n W1 (tg_259 a i z) rfl) q1)
    have t_11 : (M2.2.1 77 28).toInt = (M.2.1 77 28).toInt := congrArg Int32.toInt c_5
    have s_12 : PSm M2 = PSm M := PSm_f (fun i => W_n W1 (by omega) rfl)
    have s_13 := PS_e j_10
    have s_14 := PSm_le hG3 (p := (0 : Int).toNat) (by decide)
    have t_15 := congrArg Int32.toInt w_9
    have t_16 : (M2.2.1 100 ((0 : Int)).toNat).toInt = (M.2.1 100 ((0 : Int)).toNat).toInt := congrArg Int32.toInt (W_n W1 (by omega) rfl)
    refine to_an (pc := 26) rw_193_26 rfl (tt_gI (pc := 27) rw_193_27 (g_o hG3 rfl) (v := (M.2.1 77 28)) c_5 (s_ias (pc := 30) rw_193_30 hG3 rfl (n := 180) rfl (A := v8.toInt) rfl (by omega) (by omega) (fun M18 W17 => ?_)))
    have hG19 := g_w hG3 W17 (A := (M.2.1 77 28).toInt) rfl (lo := 0) (hi := 29) rfl rfl (by omega) (by decide)
    have F20 := FR.w F4 W17 (show 99 = 77 ∧ ((v8.toInt).toNat = 2 ∨ (v8.toInt).toNat = 28) ∨ 99 = 99 ∨ 99 = 100 by omega)
    refine to_an (pc := 31) rw_193_31 rfl (s_gR (pc := 32) rw_193_32 hG19 rfl (v := 100) rfl (to_c (pc := 35) rw_193_35 (x := (0 : Int32)) rfl rfl (to_dup2 (pc := 36) rw_193_36 (s_ialk (pc := 37) rw_193_37 hG19 rfl (n := 6) rfl rfl (A := 0) rfl (by omega) (by omega) (v := v8) (W_n W17 (by omega) w_9) (to_c (pc := 38) rw_193_38 (x := (1 : Int32)) rfl rfl (s_add (pc := 39) rw_193_39 (A := v8.toInt) (B := 1) rfl rfl (by omega) (fun v23 e24 => s_ias (pc := 40) rw_193_40 hG19 rfl (n := 6) rfl (A := 0) rfl (by omega) (by omega) (fun M26 W25 => ?_))))))))
    have hG27 := g_w hG19 W25 (A := v23.toInt) rfl (lo := 0) (hi := 30) rfl rfl (by omega) (by decide)
    have F28 := FR.w F20 W25 (show 100 = 77 ∧ ((0 : Int).toNat = 2 ∨ (0 : Int).toNat = 28) ∨ 100 = 99 ∨ 100 = 100 by omega)
    refine to_an (pc := 41) rw_193_41 rfl (to_dupr (pc := 42) rw_193_42 ?_)
    have c_29 : M26.2.1 77 28 = (M.2.1 77 28) := (W_n W25 (fun z => absurd z.1 (by decide)) (W_n W17 (fun z => absurd z.1 (by decide)) c_5))
    refine tt_gI (pc := 43) rw_193_43 (g_o hG27 rfl) (v := (M.2.1 77 28)) c_29 (to_c (pc := 46) rw_193_46 (x := (1 : Int32)) rfl rfl (s_add (pc := 47) rw_193_47 (A := (M.2.1 77 28).toInt) (B := 1) rfl rfl (by omega) (fun v30 e31 => s_pI (pc := 48) rw_193_48 hG27 rfl (fun M33 W32 => ?_))))
    have hG34 := g_w hG27 W32 (A := v30.toInt) rfl (lo := 0) (hi := 30) rfl rfl (by omega) (by decide)
    have F35 := FR.w F28 W32 (show 77 = 77 ∧ (28 = 2 ∨ 28 = 28) ∨ 77 = 99 ∨ 77 = 100 by decide)
    have s_36 : PSm M18 = PSm M2 := PSm_f (fun i => W_n W17 (by omega) rfl)
    have s_37 : PSm M26 = PSm M18 - (M18.2.1 100 (0 : Int).toNat).toInt + (M26.2.1 100 (0 : Int).toNat).toInt := PSm_set (by omega) (fun i z => W_n W25 (by omega) rfl)
    have s_38 : (M26.2.1 100 (0 : Int).toNat).toInt = v23.toInt := congrArg Int32.toInt (W_e W25)
    have s_39 : (M18.2.1 100 (0 : Int).toNat).toInt = (M.2.1 100 (0 : Int).toNat).toInt := congrArg Int32.toInt (W_n W17 (by omega) (W_n W1 (by omega) rfl))
    have s_40 : PSm M33 = PSm M26 := PSm_f (fun i => W_n W32 (by omega) rfl)
    have c_41 : M33.2.1 77 28 = v30 := (W_e W32)
    have t_42 : (M33.2.1 77 28).toInt = v30.toInt := congrArg Int32.toInt c_41
    have j_43 : PS M33 := PS_i (by omega)
    refine to_an (pc := 51) rw_193_51 rfl (tt_gI (pc := 52) rw_193_52 (g_o hG34 rfl) (v := v30) c_41 (to_c (pc := 55) rw_193_55 (x := (1 : Int32)) rfl rfl (s_sub (pc := 56) rw_193_56 (A := v30.toInt) (B := 1) rfl rfl (by omega) (fun v44 e45 => to_r0 (pc := 57) rw_193_57 ?_))))
    exact h v44 M33 hG34 F35 (by omega) (by omega) j_43
  · refine to_c (pc := 14) rw_193_14 (x := (-1 : Int32)) rfl rfl (to_r0 (pc := 15) rw_193_15 ?_)
    have k_46 : (-1 : Int32).toInt = -1 := rfl
    have t_47 : (M2.2.1 77 28).toInt = (M.2.1 77 28).toInt := congrArg Int32.toInt c_5
    have j_48 := (PS_f (fun a i z => W_n W1 (tg_259 a i z) rfl) q1)
    exact h (-1 : Int32) M2 hG3 F4 (by omega) (by omega) j_48
set_option maxRecDepth 4000 in
set_option maxHeartbeats 0 in
theorem T_209_0 {X : mm_X} {d : Nat} {M : mm_M} {Q : Option Value → mm_M → Prop} (hX : g_X X) (hd : 0 ≤ d) (h : ∀ (r : Int32) (M1 : mm_M), g_G M1 → FR md_ga M M1 → (r.toInt = (M.2.1 77 28).toInt) → ((M1.2.1 77 41).toInt = 0) → PS M1 → Q (some (.int r)) M1) : ∀ nn9 : Nat, (∀ (N : mm_M) (x1 : Int32), g_G N → FR md_ga M N → (0 ≤ x1.toInt) → (x1.toInt ≤ 30) → ((N.2.1 77 28).toInt = (M.2.1 77 28).toInt) → (∀ j : Nat, j < 6 → N.2.1 100 j = 0) → 30 - x1.toInt < (nn9 : Int) → mm_T X d 208 28 [.ref 77, .int x1] [] N Q) := by
  intro nn9
  induction nn9 with
  | zero =>
    intro N x1 hG F0 g1 g2 g3 g4 hm
    have b_1 := g_b hG (a := 77) (i := 28) (lo := 0) (hi := 30) rfl rfl
    exfalso; omega
  | succ nn9 ih =>
    intro N x1 hG F0 g1 g2 g3 g4 hm
    have b_2 := g_b hG (a := 77) (i := 28) (lo := 0) (hi := 30) rfl rfl
    refine to_in (pc := 28) rw_209_28 rfl (to_an (pc := 29) rw_209_29 rfl (tt_gI (pc := 30) rw_209_30 (g_o hG rfl) (v := (N.2.1 77 28)) rfl (b_cge (pc := 33) rw_209_33 (A := x1.toInt) (B := (N.2.1 77 28).toInt) rfl rfl (fun h3 => ?_) (fun h3 => ?_))))
    · refine to_an (pc := 49) rw_209_49 rfl (s_gR (pc := 50) rw_209_50 hG rfl (v := 100) rfl (to_c (pc := 53) rw_209_53 (x := (0 : Int32)) rfl rfl (to_an (pc := 54) rw_209_54 rfl (tt_gI (pc := 55) rw_209_55 (g_o hG rfl) (v := (N.2.1 77 28)) rfl (s_ias (pc := 58) rw_209_58 hG rfl (n := 6) rfl (A := 0) rfl (by omega) (by omega) (fun M5 W4 => ?_))))))
      have hG6 := g_w hG W4 (A := (N.2.1 77 28).toInt) rfl (lo := 0) (hi := 30) rfl rfl (by omega) (by decide)
      have F7 := FR.w F0 W4 (show 100 = 77 ∧ ((0 : Int).toNat = 2 ∨ (0 : Int).toNat = 41) ∨ 100 = 99 ∨ 100 = 100 by omega)
      have s_9 : PSm N = 0 := PSm_0 (fun j z => (g4 j z))
      have s_10 : (N.2.1 100 (0 : Int).toNat).toInt = (0 : Int32).toInt := congrArg Int32.toInt ((fun j z => (g4 j z)) 0 (by decide))
      have k_11 : (0 : Int32).toInt = 0 := rfl
      have s_12 : PSm M5 = PSm N - (N.2.1 100 (0 : Int).toNat).toInt + (M5.2.1 100 (0 : Int).toNat).toInt := PSm_set (by omega) (fun i z => W_n W4 (by omega) rfl)
      have s_13 : (M5.2.1 100 (0 : Int).toNat).toInt = (N.2.1 77 28).toInt := congrArg Int32.toInt (W_e W4)
      have c_14 : M5.2.1 77 28 = (N.2.1 77 28) := (W_n W4 (fun z => absurd z.1 (by decide)) rfl)
      have t_15 : (M5.2.1 77 28).toInt = (N.2.1 77 28).toInt := congrArg Int32.toInt c_14
      have j_8 : PS M5 := PS_i (by omega)
      refine to_an (pc := 59) rw_209_59 rfl (to_c (pc := 60) rw_209_60 (x := (0 : Int32)) rfl rfl (s_pI (pc := 61) rw_209_61 hG6 rfl (fun M17 W16 => ?_)))
      have hG18 := g_wf hG6 W16 rfl rfl (by decide)
      have F19 := FR.w F7 W16 (show 77 = 77 ∧ (41 = 2 ∨ 41 = 41) ∨ 77 = 99 ∨ 77 = 100 by decide)
      refine to_an (pc := 64) rw_209_64 rfl ?_
      have c_20 : M17.2.1 77 28 = (N.2.1 77 28) := (W_n W16 (by decide) c_14)
      refine tt_gI (pc := 65) rw_209_65 (g_o hG18 rfl) (v := (N.2.1 77 28)) c_20 (to_r0 (pc := 68) rw_209_68 ?_)
      have c_21 : M17.2.1 77 41 = (0 : Int32) := (W_e W16)
      have t_22 : (M17.2.1 77 41).toInt = (0 : Int32).toInt := congrArg Int32.toInt c_21
      have j_23 := (PS_f (fun a i z => W_n W16 (tg_268 a i z) rfl) j_8)
      exact h (N.2.1 77 28) M17 hG18 F19 (by omega) (by omega) j_23
    · refine to_an (pc := 36) rw_209_36 rfl (s_gR (pc := 37) rw_209_37 hG rfl (v := 99) rfl (to_in (pc := 40) rw_209_40 rfl (to_in (pc := 41) rw_209_41 rfl (s_ias (pc := 42) rw_209_42 hG rfl (n := 180) rfl (A := x1.toInt) rfl (by omega) (by omega) (fun M25 W24 => ?_)))))
      have hG26 := g_w hG W24 (A := x1.toInt) rfl (lo := 0) (hi := 29) rfl rfl (by omega) (by decide)
      have F27 := FR.w F0 W24 (show 99 = 77 ∧ ((x1.toInt).toNat = 2 ∨ (x1.toInt).toNat = 41) ∨ 99 = 99 ∨ 99 = 100 by omega)
      refine s_inc (pc := 43) rw_209_43 (ls2 := fun v => [.ref 77, .int v]) rfl rfl (fun _ => rfl) (A := x1.toInt) (B := 1) rfl rfl (by omega) (fun v28 e29 => to_go (pc := 46) rw_209_46 ?_)
      have c_30 : M25.2.1 77 28 = (N.2.1 77 28) := (W_n W24 (fun z => absurd z.1 (by decide)) rfl)
      have t_31 : (M25.2.1 77 28).toInt = (N.2.1 77 28).toInt := congrArg Int32.toInt c_30
      exact ih M25 v28 hG26 F27 (by omega) (by omega) (by omega) (fun j z => (W_n W24 (by omega) (g4 j z))) (by omega)
set_option maxRecDepth 4000 in
set_option maxHeartbeats 0 in
theorem T_209_1 {X : mm_X} {d : Nat} {M : mm_M} {Q : Option Value → mm_M → Prop} (hX : g_X X) (hd : 0 ≤ d) (h : ∀ (r : Int32) (M1 : mm_M), g_G M1 → FR md_ga M M1 → (r.toInt = (M.2.1 77 28).toInt) → ((M1.2.1 77 41).toInt = 0) → PS M1 → Q (some (.int r)) M1) : ∀ nn9 : Nat, (∀ (N : mm_M) (x1 : Int32), g_G N → FR md_ga M N → (0 ≤ x1.toInt) → (x1.toInt ≤ 6) → (∀ j : Nat, j < (x1.toInt).toNat → N.2.1 100 j = 0) → ((N.2.1 77 28).toInt = (M.2.1 77 28).toInt) → 6 - x1.toInt < (nn9 : Int) → mm_T X d 208 7 [.ref 77, .int x1] [] N Q) := by
  intro nn9
  induction nn9 with
  | zero =>
    intro N x1 hG F0 g1 g2 g3 g4 hm
    have b_32 := g_b hG (a := 77) (i := 28) (lo := 0) (hi := 30) rfl rfl
    exfalso; omega
  | succ nn9 ih =>
    intro N x1 hG F0 g1 g2 g3 g4 hm
    have b_33 := g_b hG (a := 77) (i := 28) (lo := 0) (hi := 30) rfl rfl
    refine to_in (pc := 7) rw_209_7 rfl (to_c (pc := 8) rw_209_8 (x := (6 : Int32)) rfl rfl (b_cge (pc := 10) rw_209_10 (A := x1.toInt) (B := 6) rfl rfl (fun h34 => ?_) (fun h34 => ?_)))
    · refine to_c (pc := 26) rw_209_26 (x := (0 : Int32)) rfl rfl (to_isn (pc := 27) rw_209_27 (ls2 := [.ref 77, .int (0 : Int32)]) rfl rfl ?_)
      have k_35 : (0 : Int32).toInt = 0 := rfl
      exact (T_209_0 hX hd  h ((30 - (0 : Int32).toInt).toNat + 1)) N (0 : Int32) hG F0 (by omega) (by omega) (by omega) (fun j z => (g3 j (by omega))) (by omega)
    · refine to_an (pc := 13) rw_209_13 rfl (s_gR (pc := 14) rw_209_14 hG rfl (v := 100) rfl (to_in (pc := 17) rw_209_17 rfl (to_c (pc := 18) rw_209_18 (x := (0 : Int32)) rfl rfl (s_ias (pc := 19) rw_209_19 hG rfl (n := 6) rfl (A := x1.toInt) rfl (by omega) (by omega) (fun M37 W36 => ?_)))))
      have hG38 := g_w hG W36 (A := 0) rfl (lo := 0) (hi := 30) rfl rfl (by omega) (by decide)
      have F39 := FR.w F0 W36 (show 100 = 77 ∧ ((x1.toInt).toNat = 2 ∨ (x1.toInt).toNat = 41) ∨ 100 = 99 ∨ 100 = 100 by omega)
      refine s_inc (pc := 20) rw_209_20 (ls2 := fun v => [.ref 77, .int v]) rfl rfl (fun _ => rfl) (A := x1.toInt) (B := 1) rfl rfl (by omega) (fun v40 e41 => to_go (pc := 23) rw_209_23 ?_)
      have j_42 : ∀ j : Nat, j < (v40.toInt).toNat → M37.2.1 100 j = 0 := by
        rw [show (v40.toInt).toNat = (x1.toInt).toNat + 1 by omega]
        exact ZR_s (M1 := M37) g3 (fun i z => (W_n W36 (by omega) rfl)) (W_e W36)
      have c_43 : M37.2.1 77 28 = (N.2.1 77 28) := (W_n W36 (fun z => absurd z.1 (by decide)) rfl)
      have t_44 : (M37.2.1 77 28).toInt = (N.2.1 77 28).toInt := congrArg Int32.toInt c_43
      exact ih M37 v40 hG38 F39 (by omega) (by omega) j_42 (by omega) (by omega)
set_option maxRecDepth 4000 in
set_option maxHeartbeats 0 in
theorem C_209 {X : mm_X} {d : Nat} {M : mm_M} {Q : Option Value → mm_M → Prop} (hX : g_X X) (hd : 0 ≤ d) (hG : g_G M) (h : ∀ (r : Int32) (M1 : mm_M), g_G M1 → FR md_ga M M1 → (r.toInt = (M.2.1 77 28).toInt) → ((M1.2.1 77 41).toInt = 0) → PS M1 → Q (some (.int r)) M1) : mm_T X d 208 0 [.ref 77, .null] [] M Q := by
  have F0 : FR md_ga M M := FR.rf
  refine to_an (pc := 0) rw_209_0 rfl (to_c (pc := 1) rw_209_1 (x := (0 : Int32)) rfl rfl (s_pI (pc := 2) rw_209_2 hG rfl (fun M46 W45 => ?_)))
  have hG47 := g_wf hG W45 rfl rfl (by decide)
  have F48 := FR.w F0 W45 (show 77 = 77 ∧ (2 = 2 ∨ 2 = 41) ∨ 77 = 99 ∨ 77 = 100 by decide)
  refine to_c (pc := 5) rw_209_5 (x := (0 : Int32)) rfl rfl (to_isn (pc := 6) rw_209_6 (ls2 := [.ref 77, .int (0 : Int32)]) rfl rfl ?_)
  have k_49 : (0 : Int32).toInt = 0 := rfl
  have c_50 : M46.2.1 77 28 = (M.2.1 77 28) := (W_n W45 (by decide) rfl)
  have b_51 := g_b hG (a := 77) (i := 28) (lo := 0) (hi := 30) rfl rfl
  have t_52 : (M46.2.1 77 28).toInt = (M.2.1 77 28).toInt := congrArg Int32.toInt c_50
  exact (T_209_1 hX hd  h ((6 - (0 : Int32).toInt).toNat + 1)) M46 (0 : Int32) hG47 F48 (by omega) (by omega) (fun j z => absurd z (by omega)) (by omega) (by omega)
set_option maxRecDepth 4000 in
set_option maxHeartbeats 0 in
theorem C_210 {X : mm_X} {d : Nat} {M : mm_M} {Q : Option Value → mm_M → Prop} {p : Int32} {c : Int32} (hX : g_X X) (hd : 0 ≤ d) (hG : g_G M) (q1 : 0 ≤ p.toInt) (q2 : p.toInt ≤ 5) (q3 : 0 ≤ c.toInt) (q4 : c.toInt ≤ 29) (q5 : (M.2.1 100 (p.toInt).toNat).toInt ≤ 29) (h : ∀ (M1 : mm_M), g_G M1 → FR md_co M M1 → ((∀ i : Nat, ¬ i = (p.toInt).toNat → M1.2.1 100 i = M.2.1 100 i) ∧ (M1.2.1 100 (p.toInt).toNat).toInt = (M.2.1 100 (p.toInt).toNat).toInt + 1) → Q (none) M1) : mm_T X d 209 0 [.ref 77, .int p, .int c] [] M Q := by
  have F0 : FR md_co M M := FR.rf
  refine to_an (pc := 0) rw_210_0 rfl (s_gR (pc := 1) rw_210_1 hG rfl (v := 99) rfl (to_c (pc := 4) rw_210_4 (x := (30 : Int32)) rfl rfl (to_in (pc := 6) rw_210_6 rfl (s_mul (pc := 7) rw_210_7 (A := 30) (B := p.toInt) rfl rfl (by omega) (fun v1 e2 => to_an (pc := 8) rw_210_8 rfl (s_gR (pc := 9) rw_210_9 hG rfl (v := 100) rfl (to_in (pc := 12) rw_210_12 rfl (s_ial (pc := 13) rw_210_13 hG rfl (n := 6) rfl rfl (A := p.toInt) rfl (by omega) (by omega) (lo := 0) (hi := 30) rfl rfl (fun v3 w_4 _ _ => ?_)))))))))
  have t_5 := congrArg Int32.toInt w_4
  refine s_add (pc := 14) rw_210_14 (A := v1.toInt) (B := v3.toInt) rfl rfl (by omega) (fun v6 e7 => to_in (pc := 15) rw_210_15 rfl (s_ias (pc := 16) rw_210_16 hG rfl (n := 180) rfl (A := v6.toInt) rfl (by omega) (by omega) (fun M9 W8 => ?_)))
  have hG10 := g_w hG W8 (A := c.toInt) rfl (lo := 0) (hi := 29) rfl rfl (by omega) (by decide)
  have F11 := FR.w F0 W8 (show 99 = 99 ∨ 99 = 100 by decide)
  refine to_an (pc := 17) rw_210_17 rfl (s_gR (pc := 18) rw_210_18 hG10 rfl (v := 100) rfl (to_in (pc := 21) rw_210_21 rfl (to_dup2 (pc := 22) rw_210_22 (s_ialk (pc := 23) rw_210_23 hG10 rfl (n := 6) rfl rfl (A := p.toInt) rfl (by omega) (by omega) (v := v3) (W_n W8 (by omega) w_4) (to_c (pc := 24) rw_210_24 (x := (1 : Int32)) rfl rfl (s_add (pc := 25) rw_210_25 (A := v3.toInt) (B := 1) rfl rfl (by omega) (fun v14 e15 => s_ias (pc := 26) rw_210_26 hG10 rfl (n := 6) rfl (A := p.toInt) rfl (by omega) (by omega) (fun M17 W16 => ?_))))))))
  have hG18 := g_w hG10 W16 (A := v14.toInt) rfl (lo := 0) (hi := 30) rfl rfl (by omega) (by decide)
  have F19 := FR.w F11 W16 (show 100 = 99 ∨ 100 = 100 by decide)
  refine to_rv (pc := 27) rw_210_27 ?_
  have j_20 : M17.2.1 100 (p.toInt).toNat = v14 := (W_e W16)
  exact h M17 hG18 F19 ⟨fun i z => (W_n W16 (by omega) (W_n W8 (by omega) rfl)), by rw [j_20]; omega⟩
set_option maxRecDepth 4000 in
set_option maxHeartbeats 0 in
theorem T_216_0 {X : mm_X} {d : Nat} {M : mm_M} {Q : Option Value → mm_M → Prop} {a : Int32} (hX : g_X X) (hd : 2 ≤ d) (q1 : 0 ≤ a.toInt) (q2 : a.toInt ≤ 39) (q3 : 0 ≤ (M.2.1 102 (a.toInt).toNat).toInt) (q4 : (M.2.1 102 (a.toInt).toNat).toInt ≤ 5) (q5 : 0 ≤ (M.2.1 103 (a.toInt).toNat).toInt) (q6 : 0 ≤ (M.2.1 104 (a.toInt).toNat).toInt) (q7 : PS M) (h : ∀ (M1 : mm_M), g_G M1 → FR md_pa M M1 → PS M1 → Q (none) M1) : ∀ nn9 : Nat, (∀ (N : mm_M) (y2 : Int64) (u4 : Value) (x5 : Int32) (x6 : Int32), g_G N → FR md_pa M N → (0 ≤ x6.toInt) → (x6.toInt ≤ 30) → (0 ≤ x5.toInt) → (x5.toInt ≤ 30) → (x6.toInt ≤ x5.toInt) → (PSm N + (x5.toInt - x6.toInt) ≤ (N.2.1 77 28).toInt) → (0 ≤ (N.2.1 102 (a.toInt).toNat).toInt) → ((N.2.1 102 (a.toInt).toNat).toInt ≤ 5) → (0 ≤ (N.2.1 103 (a.toInt).toNat).toInt) → (0 ≤ (N.2.1 104 (a.toInt).toNat).toInt) → 30 - x6.toInt < (nn9 : Int) → mm_T X d 215 118 [.ref 77, .int a, .long y2, .null, u4, .int x5, .int x6] [] N Q) := by
  intro nn9
  induction nn9 with
  | zero =>
    intro N y2 u4 x5 x6 hG F0 g1 g2 g3 g4 g5 g6 g7 g8 g9 g10 hm
    exfalso; omega
  | succ nn9 ih =>
    intro N y2 u4 x5 x6 hG F0 g1 g2 g3 g4 g5 g6 g7 g8 g9 g10 hm
    have b_1 := g_b hG (a := 77) (i := 28) (lo := 0) (hi := 30) rfl rfl
    refine to_i (pc := 118) rw_216_118 rfl (to_i (pc := 120) rw_216_120 rfl (b_cge (pc := 122) rw_216_122 (A := x6.toInt) (B := x5.toInt) rfl rfl (fun h2 => ?_) (fun h2 => ?_)))
    · refine to_an (pc := 172) rw_216_172 rfl (to_dupr (pc := 173) rw_216_173 (tt_gI (pc := 174) rw_216_174 (g_o hG rfl) (v := (N.2.1 77 42)) rfl (to_c (pc := 177) rw_216_177 (x := (1 : Int32)) rfl rfl (s_any (pc := 178) rw_216_178 (fun _ _ => rfl) (fun v3 => s_pI (pc := 179) rw_216_179 hG rfl (fun M5 W4 => ?_))))))
      have hG6 := g_wf hG W4 rfl rfl (by decide)
      have F7 := FR.w F0 W4 (show 77 = 77 ∧ 42 = 42 ∨ 77 = 99 ∨ 77 = 100 ∨ 77 = 109 by decide)
      refine to_rv (pc := 182) rw_216_182 ?_
      have s_8 : PSm M5 = PSm N := PSm_f (fun i => W_n W4 (by omega) rfl)
      have c_9 : M5.2.1 77 28 = (N.2.1 77 28) := (W_n W4 (by decide) rfl)
      have t_10 : (M5.2.1 77 28).toInt = (N.2.1 77 28).toInt := congrArg Int32.toInt c_9
      have j_11 : PS M5 := PS_i (by omega)
      exact h M5 hG6 F7 j_11
    · refine to_an (pc := 125) rw_216_125 rfl (to_an (pc := 126) rw_216_126 rfl (to_an (pc := 127) rw_216_127 rfl (s_gR (pc := 128) rw_216_128 hG rfl (v := 109) rfl (to_i (pc := 131) rw_216_131 rfl (s_ial (pc := 133) rw_216_133 hG rfl (n := 30) rfl rfl (A := x6.toInt) rfl (by omega) (by omega) (lo := 0) (hi := 29) rfl rfl (fun v12 w_13 _ _ => to_ln (pc := 134) rw_216_134 rfl rfl rfl (s_v (pc := 135) rw_216_135 (dp0 hd (by decide)) (ls0 := [.ref 77, .int v12, .long y2, .null, .null]) rfl (Nat.le_of_ble_eq_true rfl) (Nat.le_of_ble_eq_true rfl) rfl (to_rc rfl rfl rfl (g_o hG rfl)) rfl (C_207 hX (dp1 hd (by decide)) hG (by omega) (by omega) (c := v12) (x := y2) (fun r14 M19 hG16 F15 p_17 p_18 => ?_)))))))))
      have F20 := FR.c F0 F15 tg_265
      refine b_ieq (pc := 138) rw_216_138 (A := r14.toInt) rfl (fun h21 => ?_) (fun h21 => ?_)
      · refine to_an (pc := 150) rw_216_150 rfl (s_gR (pc := 151) rw_216_151 hG16 rfl (v := 104) rfl (to_in (pc := 154) rw_216_154 rfl (s_ial (pc := 155) rw_216_155 hG16 rfl (n := 40) rfl rfl (A := a.toInt) rfl (by omega) (by omega) (lo := -1) (hi := 5) rfl rfl (fun v22 w_23 _ _ => ?_))))
        have t_24 := congrArg Int32.toInt w_23
        have t_25 : (M19.2.1 104 (a.toInt).toNat).toInt = (N.2.1 104 (a.toInt).toNat).toInt := congrArg Int32.toInt (F_n F15 (show ¬ (104 < 0) by decide) rfl)
        refine to_an (pc := 156) rw_216_156 rfl (s_gR (pc := 157) rw_216_157 hG16 rfl (v := 109) rfl (to_i (pc := 160) rw_216_160 rfl (s_ialk (pc := 162) rw_216_162 hG16 rfl (n := 30) rfl rfl (A := x6.toInt) rfl (by omega) (by omega) (v := v12) (F_n F15 (show ¬ (109 < 0) by decide) w_13) (s_v (pc := 163) rw_216_163 (dp0 hd (by decide)) (ls0 := [.ref 77, .int v22, .int v12]) rfl (Nat.le_of_ble_eq_true rfl) (Nat.le_of_ble_eq_true rfl) rfl (to_rc rfl rfl rfl (g_o hG16 rfl)) rfl ?_))))
        have s_28 : PSm M19 = PSm N := PSm_f (fun i => F_n F15 (show ¬ (100 < 0) by decide) rfl)
        have s_29 := PSm_le hG16 (p := (v22.toInt).toNat) (by omega)
        have t_30 : (M19.2.1 100 (v22.toInt).toNat).toInt = (N.2.1 100 (v22.toInt).toNat).toInt := congrArg Int32.toInt (F_n F15 (show ¬ (100 < 0) by decide) rfl)
        refine C_210 hX (dp1 hd (by decide)) hG16 (by omega) (by omega) (by omega) (by omega) (by omega) (p := v22) (c := v12) (fun M34 hG32 F31 p_33 => ?_)
        have F35 := FR.c F20 F31 tg_266
        have s_36 : PSm M34 = PSm M19 - (M19.2.1 100 (v22.toInt).toNat).toInt + (M34.2.1 100 (v22.toInt).toNat).toInt := PSm_set (by omega) p_33.1
        have s_37 := p_33.2
        refine s_inc (pc := 166) rw_216_166 (ls2 := fun v => [.ref 77, .int a, .long y2, .null, u4, .int x5, .int v]) rfl rfl (fun _ => rfl) (A := x6.toInt) (B := 1) rfl rfl (by omega) (fun v38 e39 => to_go (pc := 169) rw_216_169 ?_)
        have c_40 : M34.2.1 77 28 = (N.2.1 77 28) := (F_n F31 (show ¬ (77 = 99 ∨ 77 = 100) by decide) (F_n F15 (show ¬ (77 < 0) by decide) rfl))
        have t_41 : (M34.2.1 77 28).toInt = (N.2.1 77 28).toInt := congrArg Int32.toInt c_40
        have t_42 : (M34.2.1 102 (a.toInt).toNat).toInt = (N.2.1 102 (a.toInt).toNat).toInt := congrArg Int32.toInt (F_n F31 (show ¬ (102 = 99 ∨ 102 = 100) by decide) (F_n F15 (show ¬ (102 < 0) by decide) rfl))
        have t_43 : (M34.2.1 102 (a.toInt).toNat).toInt = (N.2.1 102 (a.toInt).toNat).toInt := congrArg Int32.toInt (F_n F31 (show ¬ (102 = 99 ∨ 102 = 100) by decide) (F_n F15 (show ¬ (102 < 0) by decide) rfl))
        have t_44 : (M34.2.1 103 (a.toInt).toNat).toInt = (N.2.1 103 (a.toInt).toNat).toInt := congrArg Int32.toInt (F_n F31 (show ¬ (103 = 99 ∨ 103 = 100) by decide) (F_n F15 (show ¬ (103 < 0) by decide) rfl))
        have t_45 : (M34.2.1 104 (a.toInt).toNat).toInt = (N.2.1 104 (a.toInt).toNat).toInt := congrArg Int32.toInt (F_n F31 (show ¬ (104 = 99 ∨ 104 = 100) by decide) (F_n F15 (show ¬ (104 < 0) by decide) rfl))
        exact ih M34 y2 (u4) x5 v38 hG32 F35 (by omega) (by omega) (by omega) (by omega) (by omega) (by omega) (by omega) (by omega) (by omega) (by omega) (by omega)
      · refine to_an (pc := 141) rw_216_141 rfl (s_gR (pc := 142) rw_216_142 hG16 rfl (v := 103) rfl (to_in (pc := 145) rw_216_145 rfl (s_ial (pc := 146) rw_216_146 hG16 rfl (n := 40) rfl rfl (A := a.toInt) rfl (by omega) (by omega) (lo := -1) (hi := 5) rfl rfl (fun v46 w_47 _ _ => ?_))))
        have t_48 := congrArg Int32.toInt w_47
        have t_49 : (M19.2.1 103 (a.toInt).toNat).toInt = (N.2.1 103 (a.toInt).toNat).toInt := congrArg Int32.toInt (F_n F15 (show ¬ (103 < 0) by decide) rfl)
        refine to_go (pc := 147) rw_216_147 (to_an (pc := 156) rw_216_156 rfl (s_gR (pc := 157) rw_216_157 hG16 rfl (v := 109) rfl (to_i (pc := 160) rw_216_160 rfl (s_ialk (pc := 162) rw_216_162 hG16 rfl (n := 30) rfl rfl (A := x6.toInt) rfl (by omega) (by omega) (v := v12) (F_n F15 (show ¬ (109 < 0) by decide) w_13) (s_v (pc := 163) rw_216_163 (dp0 hd (by decide)) (ls0 := [.ref 77, .int v46, .int v12]) rfl (Nat.le_of_ble_eq_true rfl) (Nat.le_of_ble_eq_true rfl) rfl (to_rc rfl rfl rfl (g_o hG16 rfl)) rfl ?_)))))
        have s_52 : PSm M19 = PSm N := PSm_f (fun i => F_n F15 (show ¬ (100 < 0) by decide) rfl)
        have s_53 := PSm_le hG16 (p := (v46.toInt).toNat) (by omega)
        have t_54 : (M19.2.1 100 (v46.toInt).toNat).toInt = (N.2.1 100 (v46.toInt).toNat).toInt := congrArg Int32.toInt (F_n F15 (show ¬ (100 < 0) by decide) rfl)
        refine C_210 hX (dp1 hd (by decide)) hG16 (by omega) (by omega) (by omega) (by omega) (by omega) (p := v46) (c := v12) (fun M58 hG56 F55 p_57 => ?_)
        have F59 := FR.c F20 F55 tg_266
        have s_60 : PSm M58 = PSm M19 - (M19.2.1 100 (v46.toInt).toNat).toInt + (M58.2.1 100 (v46.toInt).toNat).toInt := PSm_set (by omega) p_57.1
        have s_61 := p_57.2
        refine s_inc (pc := 166) rw_216_166 (ls2 := fun v => [.ref 77, .int a, .long y2, .null, u4, .int x5, .int v]) rfl rfl (fun _ => rfl) (A := x6.toInt) (B := 1) rfl rfl (by omega) (fun v62 e63 => to_go (pc := 169) rw_216_169 ?_)
        have c_64 : M58.2.1 77 28 = (N.2.1 77 28) := (F_n F55 (show ¬ (77 = 99 ∨ 77 = 100) by decide) (F_n F15 (show ¬ (77 < 0) by decide) rfl))
        have t_65 : (M58.2.1 77 28).toInt = (N.2.1 77 28).toInt := congrArg Int32.toInt c_64
        have t_66 : (M58.2.1 102 (a.toInt).toNat).toInt = (N.2.1 102 (a.toInt).toNat).toInt := congrArg Int32.toInt (F_n F55 (show ¬ (102 = 99 ∨ 102 = 100) by decide) (F_n F15 (show ¬ (102 < 0) by decide) rfl))
        have t_67 : (M58.2.1 102 (a.toInt).toNat).toInt = (N.2.1 102 (a.toInt).toNat).toInt := congrArg Int32.toInt (F_n F55 (show ¬ (102 = 99 ∨ 102 = 100) by decide) (F_n F15 (show ¬ (102 < 0) by decide) rfl))
        have t_68 : (M58.2.1 103 (a.toInt).toNat).toInt = (N.2.1 103 (a.toInt).toNat).toInt := congrArg Int32.toInt (F_n F55 (show ¬ (103 = 99 ∨ 103 = 100) by decide) (F_n F15 (show ¬ (103 < 0) by decide) rfl))
        have t_69 : (M58.2.1 104 (a.toInt).toNat).toInt = (N.2.1 104 (a.toInt).toNat).toInt := congrArg Int32.toInt (F_n F55 (show ¬ (104 = 99 ∨ 104 = 100) by decide) (F_n F15 (show ¬ (104 < 0) by decide) rfl))
        exact ih M58 y2 (u4) x5 v62 hG56 F59 (by omega) (by omega) (by omega) (by omega) (by omega) (by omega) (by omega) (by omega) (by omega) (by omega) (by omega)
set_option maxRecDepth 4000 in
set_option maxHeartbeats 0 in
theorem T_216_1 {X : mm_X} {d : Nat} {M : mm_M} {Q : Option Value → mm_M → Prop} {a : Int32} (hX : g_X X) (hd : 2 ≤ d) (q1 : 0 ≤ a.toInt) (q2 : a.toInt ≤ 39) (q3 : 0 ≤ (M.2.1 102 (a.toInt).toNat).toInt) (q4 : (M.2.1 102 (a.toInt).toNat).toInt ≤ 5) (q5 : 0 ≤ (M.2.1 103 (a.toInt).toNat).toInt) (q6 : 0 ≤ (M.2.1 104 (a.toInt).toNat).toInt) (q7 : PS M) (h : ∀ (M1 : mm_M), g_G M1 → FR md_pa M M1 → PS M1 → Q (none) M1) : ∀ nn9 : Nat, (∀ (N : mm_M) (y2 : Int64) (x4 : Int32) (x5 : Int32) (x6 : Int32), g_G N → FR md_pa M N → (0 ≤ x6.toInt) → (x6.toInt ≤ 30) → (0 ≤ x5.toInt) → (x5.toInt ≤ 30) → (0 ≤ x4.toInt) → (x4.toInt ≤ 5) → ((N.2.1 100 (x4.toInt).toNat).toInt = x5.toInt) → (PS N) → (0 ≤ (N.2.1 102 (a.toInt).toNat).toInt) → ((N.2.1 102 (a.toInt).toNat).toInt ≤ 5) → (0 ≤ (N.2.1 103 (a.toInt).toNat).toInt) → (0 ≤ (N.2.1 104 (a.toInt).toNat).toInt) → 30 - x6.toInt < (nn9 : Int) → mm_T X d 215 74 [.ref 77, .int a, .long y2, .null, .int x4, .int x5, .int x6] [] N Q) := by
  intro nn9
  induction nn9 with
  | zero =>
    intro N y2 x4 x5 x6 hG F0 g1 g2 g3 g4 g5 g6 g7 g8 g9 g10 g11 g12 hm
    exfalso; omega
  | succ nn9 ih =>
    intro N y2 x4 x5 x6 hG F0 g1 g2 g3 g4 g5 g6 g7 g8 g9 g10 g11 g12 hm
    have b_70 := g_b hG (a := 77) (i := 28) (lo := 0) (hi := 30) rfl rfl
    have s_71 := PS_e g8
    refine to_i (pc := 74) rw_216_74 rfl (to_i (pc := 76) rw_216_76 rfl (b_cge (pc := 78) rw_216_78 (A := x6.toInt) (B := x5.toInt) rfl rfl (fun h72 => ?_) (fun h72 => ?_)))
    · refine to_an (pc := 107) rw_216_107 rfl (s_gR (pc := 108) rw_216_108 hG rfl (v := 100) rfl (to_i (pc := 111) rw_216_111 rfl (to_c (pc := 113) rw_216_113 (x := (0 : Int32)) rfl rfl (s_ias (pc := 114) rw_216_114 hG rfl (n := 6) rfl (A := x4.toInt) rfl (by omega) (by omega) (fun M74 W73 => ?_)))))
      have hG75 := g_w hG W73 (A := 0) rfl (lo := 0) (hi := 30) rfl rfl (by omega) (by decide)
      have F76 := FR.w F0 W73 (show 100 = 77 ∧ (x4.toInt).toNat = 42 ∨ 100 = 99 ∨ 100 = 100 ∨ 100 = 109 by omega)
      refine to_c (pc := 115) rw_216_115 (x := (0 : Int32)) rfl rfl (to_is (pc := 116) rw_216_116 (ls2 := [.ref 77, .int a, .long y2, .null, .int x4, .int x5, .int (0 : Int32)]) rfl rfl ?_)
      have k_77 : (0 : Int32).toInt = 0 := rfl
      have s_78 : PSm M74 = PSm N - (N.2.1 100 (x4.toInt).toNat).toInt + (M74.2.1 100 (x4.toInt).toNat).toInt := PSm_set (by omega) (fun i z => W_n W73 (by omega) rfl)
      have s_79 : (M74.2.1 100 (x4.toInt).toNat).toInt = (0 : Int32).toInt := congrArg Int32.toInt (W_e W73)
      have c_80 : M74.2.1 77 28 = (N.2.1 77 28) := (W_n W73 (fun z => absurd z.1 (by decide)) rfl)
      have t_81 : (M74.2.1 77 28).toInt = (N.2.1 77 28).toInt := congrArg Int32.toInt c_80
      have t_82 : (M74.2.1 102 (a.toInt).toNat).toInt = (N.2.1 102 (a.toInt).toNat).toInt := congrArg Int32.toInt (W_n W73 (by omega) rfl)
      have t_83 : (M74.2.1 102 (a.toInt).toNat).toInt = (N.2.1 102 (a.toInt).toNat).toInt := congrArg Int32.toInt (W_n W73 (by omega) rfl)
      have t_84 : (M74.2.1 103 (a.toInt).toNat).toInt = (N.2.1 103 (a.toInt).toNat).toInt := congrArg Int32.toInt (W_n W73 (by omega) rfl)
      have t_85 : (M74.2.1 104 (a.toInt).toNat).toInt = (N.2.1 104 (a.toInt).toNat).toInt := congrArg Int32.toInt (W_n W73 (by omega) rfl)
      exact (T_216_0 (a := a) hX hd q1 q2 q3 q4 q5 q6 q7 h ((30 - (0 : Int32).toInt).toNat + 1)) M74 y2 (.int x4) x5 (0 : Int32) hG75 F76 (by omega) (by omega) (by omega) (by omega) (by omega) (by omega) (by omega) (by omega) (by omega) (by omega) (by omega)
    · refine to_an (pc := 81) rw_216_81 rfl (s_gR (pc := 82) rw_216_82 hG rfl (v := 109) rfl (to_i (pc := 85) rw_216_85 rfl (to_an (pc := 87) rw_216_87 rfl (s_gR (pc := 88) rw_216_88 hG rfl (v := 99) rfl (to_c (pc := 91) rw_216_91 (x := (30 : Int32)) rfl rfl (to_i (pc := 93) rw_216_93 rfl (s_mul (pc := 95) rw_216_95 (A := 30) (B := x4.toInt) rfl rfl (by omega) (fun v86 e87 => to_i (pc := 96) rw_216_96 rfl (s_add (pc := 98) rw_216_98 (A := v86.toInt) (B := x6.toInt) rfl rfl (by omega) (fun v88 e89 => s_ial (pc := 99) rw_216_99 hG rfl (n := 180) rfl rfl (A := v88.toInt) rfl (by omega) (by omega) (lo := 0) (hi := 29) rfl rfl (fun v90 w_91 _ _ => s_ias (pc := 100) rw_216_100 hG rfl (n := 30) rfl (A := x6.toInt) rfl (by omega) (by omega) (fun M93 W92 => ?_))))))))))))
      have hG94 := g_w hG W92 (A := v90.toInt) rfl (lo := 0) (hi := 29) rfl rfl (by omega) (by decide)
      have F95 := FR.w F0 W92 (show 109 = 77 ∧ (x6.toInt).toNat = 42 ∨ 109 = 99 ∨ 109 = 100 ∨ 109 = 109 by omega)
      refine s_inc (pc := 101) rw_216_101 (ls2 := fun v => [.ref 77, .int a, .long y2, .null, .int x4, .int x5, .int v]) rfl rfl (fun _ => rfl) (A := x6.toInt) (B := 1) rfl rfl (by omega) (fun v96 e97 => to_go (pc := 104) rw_216_104 ?_)
      have t_98 : (M93.2.1 100 (x4.toInt).toNat).toInt = (N.2.1 100 (x4.toInt).toNat).toInt := congrArg Int32.toInt (W_n W92 (by omega) rfl)
      have j_99 := (PS_f (fun a i z => W_n W92 (tg_269 a i _ z) rfl) g8)
      have t_100 : (M93.2.1 102 (a.toInt).toNat).toInt = (N.2.1 102 (a.toInt).toNat).toInt := congrArg Int32.toInt (W_n W92 (by omega) rfl)
      have t_101 : (M93.2.1 102 (a.toInt).toNat).toInt = (N.2.1 102 (a.toInt).toNat).toInt := congrArg Int32.toInt (W_n W92 (by omega) rfl)
      have t_102 : (M93.2.1 103 (a.toInt).toNat).toInt = (N.2.1 103 (a.toInt).toNat).toInt := congrArg Int32.toInt (W_n W92 (by omega) rfl)
      have t_103 : (M93.2.1 104 (a.toInt).toNat).toInt = (N.2.1 104 (a.toInt).toNat).toInt := congrArg Int32.toInt (W_n W92 (by omega) rfl)
      exact ih M93 y2 x4 x5 v96 hG94 F95 (by omega) (by omega) (by omega) (by omega) (by omega) (by omega) (by omega) j_99 (by omega) (by omega) (by omega) (by omega) (by omega)
set_option maxRecDepth 4000 in
set_option maxHeartbeats 0 in
theorem T_216_2 {X : mm_X} {d : Nat} {M : mm_M} {Q : Option Value → mm_M → Prop} {a : Int32} (hX : g_X X) (hd : 2 ≤ d) (q1 : 0 ≤ a.toInt) (q2 : a.toInt ≤ 39) (q3 : 0 ≤ (M.2.1 102 (a.toInt).toNat).toInt) (q4 : (M.2.1 102 (a.toInt).toNat).toInt ≤ 5) (q5 : 0 ≤ (M.2.1 103 (a.toInt).toNat).toInt) (q6 : 0 ≤ (M.2.1 104 (a.toInt).toNat).toInt) (q7 : PS M) (h : ∀ (M1 : mm_M), g_G M1 → FR md_pa M M1 → PS M1 → Q (none) M1) : ∀ nn9 : Nat, (∀ (N : mm_M) (y2 : Int64) (x4 : Int32) (u5 : Value) (u6 : Value), g_G N → FR md_pa M N → (0 ≤ x4.toInt) → (x4.toInt ≤ 12) → (PS N) → (0 ≤ (N.2.1 102 (a.toInt).toNat).toInt) → ((N.2.1 102 (a.toInt).toNat).toInt ≤ 5) → (0 ≤ (N.2.1 103 (a.toInt).toNat).toInt) → (0 ≤ (N.2.1 104 (a.toInt).toNat).toInt) → 12 - x4.toInt < (nn9 : Int) → mm_T X d 215 10 [.ref 77, .int a, .long y2, .null, .int x4, u5, u6] [] N Q) := by
  intro nn9
  induction nn9 with
  | zero =>
    intro N y2 x4 u5 u6 hG F0 g1 g2 g3 g4 g5 g6 g7 hm
    exfalso; omega
  | succ nn9 ih =>
    intro N y2 x4 u5 u6 hG F0 g1 g2 g3 g4 g5 g6 g7 hm
    have b_104 := g_b hG (a := 77) (i := 28) (lo := 0) (hi := 30) rfl rfl
    have s_105 := PS_e g3
    refine to_i (pc := 10) rw_216_10 rfl (to_an (pc := 12) rw_216_12 rfl ?_)
    have b_106 := g_b hG (a := 77) (i := 13) (lo := 0) (hi := 12) rfl rfl
    refine tt_gI (pc := 13) rw_216_13 (g_o hG rfl) (v := (N.2.1 77 13)) rfl (b_cge (pc := 16) rw_216_16 (A := x4.toInt) (B := (N.2.1 77 13).toInt) rfl rfl (fun h107 => ?_) (fun h107 => ?_))
    · refine to_an (pc := 54) rw_216_54 rfl (s_gR (pc := 55) rw_216_55 hG rfl (v := 102) rfl (to_in (pc := 58) rw_216_58 rfl (s_ial (pc := 59) rw_216_59 hG rfl (n := 40) rfl rfl (A := a.toInt) rfl (by omega) (by omega) (lo := -1) (hi := 99) rfl rfl (fun v108 w_109 _ _ => ?_))))
      have t_110 := congrArg Int32.toInt w_109
      refine to_is (pc := 60) rw_216_60 (ls2 := [.ref 77, .int a, .long y2, .null, .int v108, u5, u6]) rfl rfl (to_an (pc := 62) rw_216_62 rfl (s_gR (pc := 63) rw_216_63 hG rfl (v := 100) rfl (to_i (pc := 66) rw_216_66 rfl (s_ial (pc := 68) rw_216_68 hG rfl (n := 6) rfl rfl (A := v108.toInt) rfl (by omega) (by omega) (lo := 0) (hi := 30) rfl rfl (fun v111 w_112 _ _ => ?_)))))
      have t_113 := congrArg Int32.toInt w_112
      refine to_is (pc := 69) rw_216_69 (ls2 := [.ref 77, .int a, .long y2, .null, .int v108, .int v111, u6]) rfl rfl (to_c (pc := 71) rw_216_71 (x := (0 : Int32)) rfl rfl (to_is (pc := 72) rw_216_72 (ls2 := [.ref 77, .int a, .long y2, .null, .int v108, .int v111, .int (0 : Int32)]) rfl rfl ?_))
      have k_114 : (0 : Int32).toInt = 0 := rfl
      exact (T_216_1 (a := a) hX hd q1 q2 q3 q4 q5 q6 q7 h ((30 - (0 : Int32).toInt).toNat + 1)) N y2 v108 v111 (0 : Int32) hG F0 (by omega) (by omega) (by omega) (by omega) (by omega) (by omega) (by omega) g3 (by omega) (by omega) (by omega) (by omega) (by omega)
    · refine to_ln (pc := 19) rw_216_19 rfl rfl rfl (to_an (pc := 20) rw_216_20 rfl (s_gR (pc := 21) rw_216_21 hG rfl (v := 107) rfl (to_in (pc := 24) rw_216_24 rfl (s_ial (pc := 25) rw_216_25 hG rfl (n := 40) rfl rfl (A := a.toInt) rfl (by omega) (by omega) (lo := -2147483648) (hi := 2147483647) rfl rfl (fun v115 w_116 _ _ => to_i (pc := 26) rw_216_26 rfl (s_any (pc := 28) rw_216_28 (fun _ _ => rfl) (fun v117 => to_c (pc := 29) rw_216_29 (x := (1 : Int32)) rfl rfl (s_and (pc := 30) rw_216_30 (B := 1) rfl (by omega) (fun v118 e119 _ _ => to_c (pc := 31) rw_216_31 (x := (1 : Int32)) rfl rfl (b_cne (pc := 32) rw_216_32 (A := v118.toInt) (B := 1) rfl rfl (fun h120 => ?_) (fun h120 => ?_)))))))))))
      · refine s_cl (pc := 45) rw_216_45 rfl (fun l121 => s_anyL (pc := 46) rw_216_46 (fun _ _ => rfl) (fun l122 => to_lsn (pc := 47) rw_216_47 (ls2 := [.ref 77, .int a, .long l122, .null, .int x4, u5, u6]) rfl rfl (s_inc (pc := 48) rw_216_48 (ls2 := fun v => [.ref 77, .int a, .long l122, .null, .int v, u5, u6]) rfl rfl (fun _ => rfl) (A := x4.toInt) (B := 1) rfl rfl (by omega) (fun v123 e124 => to_go (pc := 51) rw_216_51 ?_))))
        exact ih N l122 v123 (u5) (u6) hG F0 (by omega) (by omega) g3 (by omega) (by omega) (by omega) (by omega) (by omega)
      · refine to_an (pc := 35) rw_216_35 rfl (s_gR (pc := 36) rw_216_36 hG rfl (v := 95) rfl (to_i (pc := 39) rw_216_39 rfl (s_lal (pc := 41) rw_216_41 hG rfl (n := 12) rfl (A := x4.toInt) rfl (by omega) (by omega) (fun l125 => to_go (pc := 42) rw_216_42 (s_anyL (pc := 46) rw_216_46 (fun _ _ => rfl) (fun l126 => to_lsn (pc := 47) rw_216_47 (ls2 := [.ref 77, .int a, .long l126, .null, .int x4, u5, u6]) rfl rfl (s_inc (pc := 48) rw_216_48 (ls2 := fun v => [.ref 77, .int a, .long l126, .null, .int v, u5, u6]) rfl rfl (fun _ => rfl) (A := x4.toInt) (B := 1) rfl rfl (by omega) (fun v127 e128 => to_go (pc := 51) rw_216_51 ?_))))))))
        exact ih N l126 v127 (u5) (u6) hG F0 (by omega) (by omega) g3 (by omega) (by omega) (by omega) (by omega) (by omega)
set_option maxRecDepth 4000 in
set_option maxHeartbeats 0 in
theorem C_216 {X : mm_X} {d : Nat} {M : mm_M} {Q : Option Value → mm_M → Prop} {a : Int32} (hX : g_X X) (hd : 2 ≤ d) (hG : g_G M) (q1 : 0 ≤ a.toInt) (q2 : a.toInt ≤ 39) (q3 : 0 ≤ (M.2.1 102 (a.toInt).toNat).toInt) (q4 : (M.2.1 102 (a.toInt).toNat).toInt ≤ 5) (q5 : 0 ≤ (M.2.1 103 (a.toInt).toNat).toInt) (q6 : 0 ≤ (M.2.1 104 (a.toInt).toNat).toInt) (q7 : PS M) (h : ∀ (M1 : mm_M), g_G M1 → FR md_pa M M1 → PS M1 → Q (none) M1) : mm_T X d 215 0 [.ref 77, .int a, .null, .null, .null, .null, .null] [] M Q := by
  have F0 : FR md_pa M M := FR.rf
  have b_129 := g_b hG (a := 77) (i := 28) (lo := 0) (hi := 30) rfl rfl
  have s_130 := PS_e q7
  refine to_an (pc := 0) rw_216_0 rfl (s_gR (pc := 1) rw_216_1 hG rfl (v := 106) rfl (to_in (pc := 4) rw_216_4 rfl (s_lal (pc := 5) rw_216_5 hG rfl (n := 40) rfl (A := a.toInt) rfl (by omega) (by omega) (fun l131 => to_lsn (pc := 6) rw_216_6 (ls2 := [.ref 77, .int a, .long l131, .null, .null, .null, .null]) rfl rfl (to_c (pc := 7) rw_216_7 (x := (0 : Int32)) rfl rfl (to_is (pc := 8) rw_216_8 (ls2 := [.ref 77, .int a, .long l131, .null, .int (0 : Int32), .null, .null]) rfl rfl ?_))))))
  have k_132 : (0 : Int32).toInt = 0 := rfl
  exact (T_216_2 (a := a) hX hd q1 q2 q3 q4 q5 q6 q7 h ((12 - (0 : Int32).toInt).toNat + 1)) M l131 (0 : Int32) (.null) (.null) hG F0 (by omega) (by omega) q7 (by omega) (by omega) (by omega) (by omega) (by omega)
set_option maxRecDepth 4000 in
set_option maxHeartbeats 0 in
theorem T_217_0 {X : mm_X} {d : Nat} {M : mm_M} {Q : Option Value → mm_M → Prop} {a : Int32} {o : Int32} {t : Int32} (hX : g_X X) (hd : 1 ≤ d) (q1 : 0 ≤ a.toInt) (q2 : a.toInt ≤ 39) (q3 : M.2.1 103 (a.toInt).toNat = t) (q4 : M.2.1 102 (a.toInt).toNat = o) (q5 : 0 ≤ o.toInt) (q6 : o.toInt ≤ 5) (q7 : 0 ≤ t.toInt) (q8 : t.toInt ≤ 5) (q9 : ¬ o.toInt = t.toInt) (q10 : PS M) (h : ∀ (M1 : mm_M), g_G M1 → FR md_co M M1 → PS M1 → Q (none) M1) : ∀ nn9 : Nat, (∀ (N : mm_M) (x2 : Int32) (x3 : Int32), g_G N → FR md_co M N → (0 ≤ x3.toInt) → (x3.toInt ≤ 30) → (x2.toInt = o.toInt) → (0 ≤ x2.toInt) → (x2.toInt ≤ 5) → (N.2.1 103 (a.toInt).toNat = t) → (N.2.1 102 (a.toInt).toNat = o) → (PSm N = PSm M + x3.toInt ∧ (N.2.1 100 (o.toInt).toNat).toInt = (M.2.1 100 (o.toInt).toNat).toInt ∧ (N.2.1 100 (t.toInt).toNat).toInt = (M.2.1 100 (t.toInt).toNat).toInt + x3.toInt ∧ x3.toInt ≤ (M.2.1 100 (o.toInt).toNat).toInt) → 30 - x3.toInt < (nn9 : Int) → mm_T X d 216 9 [.ref 77, .int a, .int x2, .int x3] [] N Q) := by
  intro nn9
  induction nn9 with
  | zero =>
    intro N x2 x3 hG F0 g1 g2 g3 g4 g5 g6 g7 g8 hm
    exfalso; omega
  | succ nn9 ih =>
    intro N x2 x3 hG F0 g1 g2 g3 g4 g5 g6 g7 g8 hm
    have b_1 := g_b hG (a := 77) (i := 28) (lo := 0) (hi := 30) rfl rfl
    have s_2 := PS_e q10
    have s_3 : (N.2.1 77 28).toInt = (M.2.1 77 28).toInt := congrArg Int32.toInt (F0.2.2 77 28 (show ¬ (77 = 99 ∨ 77 = 100) by decide)).1
    obtain ⟨s_a, s_b, s_c, s_d⟩ := g8
    have s_e := PSm_le2 hG (p := (o.toInt).toNat) (q := (t.toInt).toNat) (by omega) (by omega) (by omega)
    refine to_in (pc := 9) rw_217_9 rfl (to_an (pc := 10) rw_217_10 rfl (s_gR (pc := 11) rw_217_11 hG rfl (v := 100) rfl (to_in (pc := 14) rw_217_14 rfl (s_ial (pc := 15) rw_217_15 hG rfl (n := 6) rfl rfl (A := x2.toInt) rfl (by omega) (by omega) (lo := 0) (hi := 30) rfl rfl (fun v4 w_5 _ _ => ?_)))))
    have t_6 := congrArg Int32.toInt w_5
    have s_7 : (N.2.1 100 (x2.toInt).toNat).toInt = (N.2.1 100 (o.toInt).toNat).toInt := by rw [show x2.toInt = o.toInt by omega]
    refine b_cge (pc := 16) rw_217_16 (A := x3.toInt) (B := v4.toInt) rfl rfl (fun h8 => ?_) (fun h8 => ?_)
    · refine to_an (pc := 46) rw_217_46 rfl (s_gR (pc := 47) rw_217_47 hG rfl (v := 100) rfl (to_in (pc := 50) rw_217_50 rfl (to_c (pc := 51) rw_217_51 (x := (0 : Int32)) rfl rfl (s_ias (pc := 52) rw_217_52 hG rfl (n := 6) rfl (A := x2.toInt) rfl (by omega) (by omega) (fun M10 W9 => ?_)))))
      have hG11 := g_w hG W9 (A := 0) rfl (lo := 0) (hi := 30) rfl rfl (by omega) (by decide)
      have F12 := FR.w F0 W9 (show 100 = 99 ∨ 100 = 100 by decide)
      have s_13 : (N.2.1 100 (x2.toInt).toNat).toInt = (N.2.1 100 (o.toInt).toNat).toInt := by rw [show x2.toInt = o.toInt by omega]
      refine to_rv (pc := 53) rw_217_53 ?_
      have s_14 : PSm M10 = PSm N - (N.2.1 100 (x2.toInt).toNat).toInt + (M10.2.1 100 (x2.toInt).toNat).toInt := PSm_set (by omega) (fun i z => W_n W9 (by omega) rfl)
      have s_15 : (M10.2.1 100 (x2.toInt).toNat).toInt = (0 : Int32).toInt := congrArg Int32.toInt (W_e W9)
      have k_16 : (0 : Int32).toInt = 0 := rfl
      have c_17 : M10.2.1 77 28 = (N.2.1 77 28) := (W_n W9 (fun z => absurd z.1 (by decide)) rfl)
      have t_18 : (M10.2.1 77 28).toInt = (N.2.1 77 28).toInt := congrArg Int32.toInt c_17
      have j_19 : PS M10 := PS_i (by omega)
      exact h M10 hG11 F12 j_19
    · refine to_an (pc := 19) rw_217_19 rfl (to_an (pc := 20) rw_217_20 rfl (s_gR (pc := 21) rw_217_21 hG rfl (v := 103) rfl (to_in (pc := 24) rw_217_24 rfl (s_ialk (pc := 25) rw_217_25 hG rfl (n := 40) rfl rfl (A := a.toInt) rfl (by omega) (by omega) (v := t) g6 (to_an (pc := 26) rw_217_26 rfl (s_gR (pc := 27) rw_217_27 hG rfl (v := 99) rfl (to_c (pc := 30) rw_217_30 (x := (30 : Int32)) rfl rfl (to_in (pc := 32) rw_217_32 rfl (s_mul (pc := 33) rw_217_33 (A := 30) (B := x2.toInt) rfl rfl (by omega) (fun v22 e23 => to_in (pc := 34) rw_217_34 rfl (s_add (pc := 35) rw_217_35 (A := v22.toInt) (B := x3.toInt) rfl rfl (by omega) (fun v24 e25 => ?_))))))))))))
      refine s_ial (pc := 36) rw_217_36 hG rfl (n := 180) rfl rfl (A := v24.toInt) rfl (by omega) (by omega) (lo := 0) (hi := 29) rfl rfl (fun v26 w_27 _ _ => s_v (pc := 37) rw_217_37 (dp0 hd (by decide)) (ls0 := [.ref 77, .int t, .int v26]) rfl (Nat.le_of_ble_eq_true rfl) (Nat.le_of_ble_eq_true rfl) rfl (to_rc rfl rfl rfl (g_o hG rfl)) rfl (C_210 hX (dp1 hd (by decide)) hG (by omega) (by omega) (by omega) (by omega) (by omega) (p := t) (c := v26) (fun M31 hG29 F28 p_30 => ?_)))
      have F32 := FR.c F0 F28 tg_267
      have s_33 : PSm M31 = PSm N - (N.2.1 100 (t.toInt).toNat).toInt + (M31.2.1 100 (t.toInt).toNat).toInt := PSm_set (by omega) p_30.1
      have s_34 := p_30.2
      have s_35 : (M31.2.1 100 (o.toInt).toNat).toInt = (N.2.1 100 (o.toInt).toNat).toInt := congrArg Int32.toInt (p_30.1 _ (by omega))
      refine s_inc (pc := 40) rw_217_40 (ls2 := fun v => [.ref 77, .int a, .int x2, .int v]) rfl rfl (fun _ => rfl) (A := x3.toInt) (B := 1) rfl rfl (by omega) (fun v36 e37 => to_go (pc := 43) rw_217_43 ?_)
      have s_38 := g_nn hG29 (o.toInt).toNat
      exact ih M31 x2 v36 hG29 F32 (by omega) (by omega) (by omega) (by omega) (by omega) (F_n F28 (show ¬ (103 = 99 ∨ 103 = 100) by decide) g6) (F_n F28 (show ¬ (102 = 99 ∨ 102 = 100) by decide) g7) ⟨by omega, by omega, by omega, by omega⟩ (by omega)
set_option maxRecDepth 4000 in
set_option maxHeartbeats 0 in
theorem C_217 {X : mm_X} {d : Nat} {M : mm_M} {Q : Option Value → mm_M → Prop} {a : Int32} {o : Int32} {t : Int32} (hX : g_X X) (hd : 1 ≤ d) (hG : g_G M) (q1 : 0 ≤ a.toInt) (q2 : a.toInt ≤ 39) (q3 : M.2.1 103 (a.toInt).toNat = t) (q4 : M.2.1 102 (a.toInt).toNat = o) (q5 : 0 ≤ o.toInt) (q6 : o.toInt ≤ 5) (q7 : 0 ≤ t.toInt) (q8 : t.toInt ≤ 5) (q9 : ¬ o.toInt = t.toInt) (q10 : PS M) (h : ∀ (M1 : mm_M), g_G M1 → FR md_co M M1 → PS M1 → Q (none) M1) : mm_T X d 216 0 [.ref 77, .int a, .null, .null] [] M Q := by
  have F0 : FR md_co M M := FR.rf
  have b_39 := g_b hG (a := 77) (i := 28) (lo := 0) (hi := 30) rfl rfl
  have s_40 := PS_e q10
  refine to_an (pc := 0) rw_217_0 rfl (s_gR (pc := 1) rw_217_1 hG rfl (v := 102) rfl (to_in (pc := 4) rw_217_4 rfl (s_ialk (pc := 5) rw_217_5 hG rfl (n := 40) rfl rfl (A := a.toInt) rfl (by omega) (by omega) (v := o) q4 (to_isn (pc := 6) rw_217_6 (ls2 := [.ref 77, .int a, .int o, .null]) rfl rfl (to_c (pc := 7) rw_217_7 (x := (0 : Int32)) rfl rfl (to_isn (pc := 8) rw_217_8 (ls2 := [.ref 77, .int a, .int o, .int (0 : Int32)]) rfl rfl ?_))))))
  have k_43 : (0 : Int32).toInt = 0 := rfl
  have s_44 := g_nn hG (o.toInt).toNat
  exact (T_217_0 (a := a) (o := o) (t := t) hX hd q1 q2 q3 q4 q5 q6 q7 q8 q9 q10 h ((30 - (0 : Int32).toInt).toNat + 1)) M o (0 : Int32) hG F0 (by omega) (by omega) (by omega) (by omega) (by omega) q3 q4 ⟨by omega, by omega, by omega, by omega⟩ (by omega)
end
