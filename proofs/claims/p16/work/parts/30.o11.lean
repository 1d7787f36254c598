theorem tg_218 {M M1 : mm_M} (F : FR (fun a i : Nat => a < 0) M M1) : ∀ a i : Nat, (81 ≤ a ∧ a ≤ 84) → M1.2.1 a i = M.2.1 a i := fun a i z => F_n F (show ¬ (a < 0) by omega) rfl
theorem tg_219 {M M1 : mm_M} (F : FR (fun a i : Nat => a < 0) M M1) : ∀ a i : Nat, WR_r a i → M1.2.1 a i = M.2.1 a i := fun a i z => F_n F (show ¬ (a < 0) by omega) rfl
theorem tg_220 {M M1 : mm_M} (F : FR (fun a i : Nat => a = 77 ∧ 7 ≤ i ∧ i ≤ 10) M M1) : ∀ a i : Nat, (81 ≤ a ∧ a ≤ 84) → M1.2.1 a i = M.2.1 a i := fun a i z => F_n F (show ¬ (a = 77 ∧ 7 ≤ i ∧ i ≤ 10) by omega) rfl
theorem tg_221 {M M1 : mm_M} (F : FR (fun a i : Nat => a = 77 ∧ (i = 4 ∨ i = 5)) M M1) : ∀ a i : Nat, (81 ≤ a ∧ a ≤ 84) → M1.2.1 a i = M.2.1 a i := fun a i z => F_n F (show ¬ (a = 77 ∧ (i = 4 ∨ i = 5)) by omega) rfl
theorem tg_222 {M M1 : mm_M} (F : FR (fun a i : Nat => a = 77 ∧ 7 ≤ i ∧ i ≤ 10) M M1) : ∀ a i : Nat, WR_r a i → M1.2.1 a i = M.2.1 a i := fun a i z => F_n F (show ¬ (a = 77 ∧ 7 ≤ i ∧ i ≤ 10) by omega) rfl
theorem tg_223 {M M1 : mm_M} (F : FR (fun a i : Nat => a = 77 ∧ (i = 4 ∨ i = 5)) M M1) : ∀ a i : Nat, WR_r a i → M1.2.1 a i = M.2.1 a i := fun a i z => F_n F (show ¬ (a = 77 ∧ (i = 4 ∨ i = 5)) by omega) rfl
theorem tg_224 {M M1 : mm_M} (F : FR (fun a i : Nat => a = 77 ∧ (i = 4 ∨ i = 5 ∨ 7 ≤ i ∧ i ≤ 10)) M M1) : ∀ a i : Nat, (81 ≤ a ∧ a ≤ 84) → M1.2.1 a i = M.2.1 a i := fun a i z => F_n F (show ¬ (a = 77 ∧ (i = 4 ∨ i = 5 ∨ 7 ≤ i ∧ i ≤ 10)) by omega) rfl
theorem tg_225 {M M1 : mm_M} (F : FR (fun a i : Nat => a = 77 ∧ (i = 4 ∨ i = 5 ∨ 7 ≤ i ∧ i ≤ 10 ∨ i = 16) ∨ 85 ≤ a ∧ a ≤ 87 ∧ 12 ≤ i) M M1) : ∀ a i : Nat, (81 ≤ a ∧ a ≤ 84) → M1.2.1 a i = M.2.1 a i := fun a i z => F_n F (show ¬ (a = 77 ∧ (i = 4 ∨ i = 5 ∨ 7 ≤ i ∧ i ≤ 10 ∨ i = 16) ∨ 85 ≤ a ∧ a ≤ 87 ∧ 12 ≤ i) by omega) rfl
theorem tg_226 {M M1 : mm_M} (F : FR (fun a i : Nat => a = 77 ∧ (i = 4 ∨ i = 5 ∨ 7 ≤ i ∧ i ≤ 10)) M M1) : ∀ a i : Nat, WR_r a i → M1.2.1 a i = M.2.1 a i := fun a i z => F_n F (show ¬ (a = 77 ∧ (i = 4 ∨ i = 5 ∨ 7 ≤ i ∧ i ≤ 10)) by omega) rfl
theorem tg_227 : ∀ a i : Nat, (a < 0) → (a = 77 ∧ (i = 4 ∨ i = 5 ∨ 7 ≤ i ∧ i ≤ 10 ∨ 14 ≤ i ∧ i ≤ 16 ∨ i = 25) ∨ 80 ≤ a ∧ a ≤ 84 ∧ 8 ≤ i ∨ 85 ≤ a ∧ a ≤ 87 ∧ 12 ≤ i) := fun a i z => by omega
theorem tg_228 : ∀ a i : Nat, (a = 77 ∧ (i = 4 ∨ i = 5 ∨ 7 ≤ i ∧ i ≤ 10 ∨ 14 ≤ i ∧ i ≤ 16 ∨ i = 25) ∨ 80 ≤ a ∧ a ≤ 84 ∧ 8 ≤ i ∨ 85 ≤ a ∧ a ≤ 87 ∧ 12 ≤ i) → (a = 77 ∧ (i = 4 ∨ i = 5 ∨ 7 ≤ i ∧ i ≤ 10 ∨ 14 ≤ i ∧ i ≤ 16 ∨ i = 25) ∨ 80 ≤ a ∧ a ≤ 84 ∧ 8 ≤ i ∨ 85 ≤ a ∧ a ≤ 87 ∧ 12 ≤ i) := fun a i z => by omega
theorem tg_229 : ∀ a i j : Nat, (81 ≤ a ∧ a ≤ 84) → ¬ (a = 80 ∧ i = j) := fun a i j z => by omega
theorem tg_230 : ∀ a i : Nat, (81 ≤ a ∧ a ≤ 84) → ¬ (a = 77 ∧ i = 15) := fun a i z => by omega
theorem tg_231 : ∀ a i : Nat, (81 ≤ a ∧ a ≤ 84) → ¬ (a = 77 ∧ i = 5) := fun a i z => by omega
theorem tg_232 : ∀ a i : Nat, (81 ≤ a ∧ a ≤ 84) → ¬ (a = 77 ∧ i = 4) := fun a i z => by omega
theorem tg_233 : ∀ a i : Nat, (81 ≤ a ∧ a ≤ 84) → ¬ (a = 77 ∧ i = 14) := fun a i z => by omega
set_option maxRecDepth 4000 in
set_option maxHeartbeats 0 in
theorem T_166_0 {X : mm_X} {d : Nat} {M : mm_M} {Q : Option Value → mm_M → Prop} {n : Int32} (hX : g_X X) (hd : 0 ≤ d) (h : ∀ (r : Int32) (M1 : mm_M), g_G M1 → FR md_0 M M1 → (-1 ≤ r.toInt) → (r.toInt ≤ 7) → (r.toInt < (M.2.1 77 15).toInt) → Q (some (.int r)) M1) : ∀ nn9 : Nat, (∀ (N : mm_M) (x2 : Int32), g_G N → FR md_0 M N → (0 ≤ x2.toInt) → (x2.toInt ≤ 8) → ((N.2.1 77 15).toInt = (M.2.1 77 15).toInt) → 8 - x2.toInt < (nn9 : Int) → mm_T X d 165 2 [.ref 77, .int n, .int x2] [] N Q) := by
  intro nn9
  induction nn9 with
  | zero =>
    intro N x2 hG F0 g1 g2 g3 hm
    have b_1 := g_b hG (a := 77) (i := 15) (lo := 0) (hi := 8) rfl rfl
    exfalso; omega
  | succ nn9 ih =>
    intro N x2 hG F0 g1 g2 g3 hm
    have b_2 := g_b hG (a := 77) (i := 15) (lo := 0) (hi := 8) rfl rfl
    refine to_in (pc := 2) rw_166_2 rfl (to_an (pc := 3) rw_166_3 rfl (tt_gI (pc := 4) rw_166_4 (g_o hG rfl) (v := (N.2.1 77 15)) rfl (b_cge (pc := 7) rw_166_7 (A := x2.toInt) (B := (N.2.1 77 15).toInt) rfl rfl (fun h3 => ?_) (fun h3 => ?_))))
    · refine to_c (pc := 31) rw_166_31 (x := (-1 : Int32)) rfl rfl (to_r0 (pc := 32) rw_166_32 ?_)
      have k_4 : (-1 : Int32).toInt = -1 := rfl
      exact h (-1 : Int32) N hG F0 (by omega) (by omega) (by omega)
    · refine to_an (pc := 10) rw_166_10 rfl (s_gR (pc := 11) rw_166_11 hG rfl (v := 80) rfl (to_c (pc := 14) rw_166_14 (x := (8 : Int32)) rfl rfl (to_in (pc := 16) rw_166_16 rfl (s_add (pc := 17) rw_166_17 (A := 8) (B := x2.toInt) rfl rfl (by omega) (fun v5 e6 => s_ial (pc := 18) rw_166_18 hG rfl (n := 16) rfl rfl (A := v5.toInt) rfl (by omega) (by omega) (lo := -2147483648) (hi := 2147483647) rfl rfl (fun v7 w_8 _ _ => to_in (pc := 19) rw_166_19 rfl (b_cne (pc := 20) rw_166_20 (A := v7.toInt) (B := n.toInt) rfl rfl (fun h9 => ?_) (fun h9 => ?_))))))))
      · refine s_inc (pc := 25) rw_166_25 (ls2 := fun v => [.ref 77, .int n, .int v]) rfl rfl (fun _ => rfl) (A := x2.toInt) (B := 1) rfl rfl (by omega) (fun v10 e11 => to_go (pc := 28) rw_166_28 ?_)
        exact ih N v10 hG F0 (by omega) (by omega) (by omega) (by omega)
      · refine to_in (pc := 23) rw_166_23 rfl (to_r0 (pc := 24) rw_166_24 ?_)
        exact h x2 N hG F0 (by omega) (by omega) (by omega)
set_option maxRecDepth 4000 in
set_option maxHeartbeats 0 in
theorem C_166 {X : mm_X} {d : Nat} {M : mm_M} {Q : Option Value → mm_M → Prop} {n : Int32} (hX : g_X X) (hd : 0 ≤ d) (hG : g_G M) (h : ∀ (r : Int32) (M1 : mm_M), g_G M1 → FR md_0 M M1 → (-1 ≤ r.toInt) → (r.toInt ≤ 7) → (r.toInt < (M.2.1 77 15).toInt) → Q (some (.int r)) M1) : mm_T X d 165 0 [.ref 77, .int n, .null] [] M Q := by
  have F0 : FR md_0 M M := FR.rf
  refine to_c (pc := 0) rw_166_0 (x := (0 : Int32)) rfl rfl (to_isn (pc := 1) rw_166_1 (ls2 := [.ref 77, .int n, .int (0 : Int32)]) rfl rfl ?_)
  have k_12 : (0 : Int32).toInt = 0 := rfl
  have b_13 := g_b hG (a := 77) (i := 15) (lo := 0) (hi := 8) rfl rfl
  exact (T_166_0 (n := n) hX hd  h ((8 - (0 : Int32).toInt).toNat + 1)) M (0 : Int32) hG F0 (by omega) (by omega) (by omega) (by omega)
set_option maxRecDepth 4000 in
set_option maxHeartbeats 0 in
theorem T_167_0 {X : mm_X} {d : Nat} {M : mm_M} {Q : Option Value → mm_M → Prop} {n : Int32} (hX : g_X X) (hd : 1 ≤ d) (h : ∀ (r : Int32) (M1 : mm_M), g_G M1 → FR md_0 M M1 → (0 ≤ r.toInt) → (r.toInt ≤ 1) → Q (some (.int r)) M1) : ∀ nn9 : Nat, (∀ (N : mm_M) (x2 : Int32), g_G N → FR md_0 M N → (0 ≤ x2.toInt) → (x2.toInt ≤ 12) → 12 - x2.toInt < (nn9 : Int) → mm_T X d 166 2 [.ref 77, .int n, .int x2] [] N Q) := by
  intro nn9
  induction nn9 with
  | zero =>
    intro N x2 hG F0 g1 g2 hm
    exfalso; omega
  | succ nn9 ih =>
    intro N x2 hG F0 g1 g2 hm
    refine to_in (pc := 2) rw_167_2 rfl (to_an (pc := 3) rw_167_3 rfl ?_)
    have b_1 := g_b hG (a := 77) (i := 16) (lo := 0) (hi := 12) rfl rfl
    refine tt_gI (pc := 4) rw_167_4 (g_o hG rfl) (v := (N.2.1 77 16)) rfl (b_cge (pc := 7) rw_167_7 (A := x2.toInt) (B := (N.2.1 77 16).toInt) rfl rfl (fun h2 => ?_) (fun h2 => ?_))
    · refine to_an (pc := 31) rw_167_31 rfl (to_in (pc := 32) rw_167_32 rfl (s_v (pc := 33) rw_167_33 (dp0 hd (by decide)) (ls0 := [.ref 77, .int n, .null]) rfl (Nat.le_of_ble_eq_true rfl) (Nat.le_of_ble_eq_true rfl) rfl (to_rc rfl rfl rfl (g_o hG rfl)) rfl ?_))
      have b_3 := g_b hG (a := 77) (i := 15) (lo := 0) (hi := 8) rfl rfl
      refine C_166 hX (dp1 hd (by decide)) hG (n := n) (fun r4 M10 hG6 F5 p_7 p_8 p_9 => ?_)
      have F11 := FR.c F0 F5 tg_29
      refine b_ilt (pc := 36) rw_167_36 (A := r4.toInt) rfl (fun h12 => ?_) (fun h12 => ?_)
      · refine to_c (pc := 43) rw_167_43 (x := (0 : Int32)) rfl rfl (s_r1 (pc := 44) rw_167_44 (A := 0) rfl (by decide) ?_)
        have k_13 : (0 : Int32).toInt = 0 := rfl
        exact h (0 : Int32) M10 hG6 F11 (by decide) (by decide)
      · refine to_c (pc := 39) rw_167_39 (x := (1 : Int32)) rfl rfl (to_go (pc := 40) rw_167_40 (s_r1 (pc := 44) rw_167_44 (A := 1) rfl (by decide) ?_))
        have k_14 : (1 : Int32).toInt = 1 := rfl
        exact h (1 : Int32) M10 hG6 F11 (by decide) (by decide)
    · refine to_an (pc := 10) rw_167_10 rfl (s_gR (pc := 11) rw_167_11 hG rfl (v := 85) rfl (to_c (pc := 14) rw_167_14 (x := (12 : Int32)) rfl rfl (to_in (pc := 16) rw_167_16 rfl (s_add (pc := 17) rw_167_17 (A := 12) (B := x2.toInt) rfl rfl (by omega) (fun v15 e16 => s_ial (pc := 18) rw_167_18 hG rfl (n := 24) rfl rfl (A := v15.toInt) rfl (by omega) (by omega) (lo := -2147483648) (hi := 2147483647) rfl rfl (fun v17 w_18 _ _ => to_in (pc := 19) rw_167_19 rfl (b_cne (pc := 20) rw_167_20 (A := v17.toInt) (B := n.toInt) rfl rfl (fun h19 => ?_) (fun h19 => ?_))))))))
      · refine s_inc (pc := 25) rw_167_25 (ls2 := fun v => [.ref 77, .int n, .int v]) rfl rfl (fun _ => rfl) (A := x2.toInt) (B := 1) rfl rfl (by omega) (fun v20 e21 => to_go (pc := 28) rw_167_28 ?_)
        exact ih N v20 hG F0 (by omega) (by omega) (by omega)
      · refine to_c (pc := 23) rw_167_23 (x := (1 : Int32)) rfl rfl (s_r1 (pc := 24) rw_167_24 (A := 1) rfl (by decide) ?_)
        have k_22 : (1 : Int32).toInt = 1 := rfl
        exact h (1 : Int32) N hG F0 (by decide) (by decide)
set_option maxRecDepth 4000 in
set_option maxHeartbeats 0 in
theorem C_167 {X : mm_X} {d : Nat} {M : mm_M} {Q : Option Value → mm_M → Prop} {n : Int32} (hX : g_X X) (hd : 1 ≤ d) (hG : g_G M) (h : ∀ (r : Int32) (M1 : mm_M), g_G M1 → FR md_0 M M1 → (0 ≤ r.toInt) → (r.toInt ≤ 1) → Q (some (.int r)) M1) : mm_T X d 166 0 [.ref 77, .int n, .null] [] M Q := by
  have F0 : FR md_0 M M := FR.rf
  refine to_c (pc := 0) rw_167_0 (x := (0 : Int32)) rfl rfl (to_isn (pc := 1) rw_167_1 (ls2 := [.ref 77, .int n, .int (0 : Int32)]) rfl rfl ?_)
  have k_23 : (0 : Int32).toInt = 0 := rfl
  exact (T_167_0 (n := n) hX hd  h ((12 - (0 : Int32).toInt).toNat + 1)) M (0 : Int32) hG F0 (by omega) (by omega) (by omega)
set_option maxRecDepth 4000 in
set_option maxHeartbeats 0 in
theorem T_168_0 {X : mm_X} {d : Nat} {M : mm_M} {Q : Option Value → mm_M → Prop} {a : Int32} {b : Int32} (hX : g_X X) (hd : 0 ≤ d) (q1 : 0 ≤ a.toInt) (q2 : a.toInt ≤ 64) (q3 : b.toInt ≤ 63) (h : ∀ (r : Int64) (M1 : mm_M), g_G M1 → FR md_0 M M1 → Q (some (.long r)) M1) : ∀ nn9 : Nat, (∀ (N : mm_M) (u0 : Value) (y2 : Int64) (x4 : Int32), g_G N → FR md_0 M N → (0 ≤ x4.toInt) → (x4.toInt ≤ 64) → 64 - x4.toInt < (nn9 : Int) → mm_T X d 167 5 [u0, .int b, .long y2, .null, .int x4] [] N Q) := by
  intro nn9
  induction nn9 with
  | zero =>
    intro N u0 y2 x4 hG F0 g1 g2 hm
    exfalso; omega
  | succ nn9 ih =>
    intro N u0 y2 x4 hG F0 g1 g2 hm
    refine to_i (pc := 5) rw_168_5 rfl (to_in (pc := 7) rw_168_7 rfl (b_cgt (pc := 8) rw_168_8 (A := x4.toInt) (B := b.toInt) rfl rfl (fun h1 => ?_) (fun h1 => ?_)))
    · refine to_ln (pc := 24) rw_168_24 rfl rfl rfl (to_rl (pc := 25) rw_168_25 ?_)
      exact h y2 N hG F0 
    · refine to_ln (pc := 11) rw_168_11 rfl rfl rfl (s_cl (pc := 12) rw_168_12 rfl (fun l2 => to_i (pc := 13) rw_168_13 rfl (s_anyS (pc := 15) rw_168_15 (fun _ _ => rfl) (fun l3 => s_anyL (pc := 16) rw_168_16 (fun _ _ => rfl) (fun l4 => to_lsn (pc := 17) rw_168_17 (ls2 := [u0, .int b, .long l4, .null, .int x4]) rfl rfl (s_inc (pc := 18) rw_168_18 (ls2 := fun v => [u0, .int b, .long l4, .null, .int v]) rfl rfl (fun _ => rfl) (A := x4.toInt) (B := 1) rfl rfl (by omega) (fun v5 e6 => to_go (pc := 21) rw_168_21 ?_)))))))
      exact ih N (u0) l4 v5 hG F0 (by omega) (by omega) (by omega)
set_option maxRecDepth 4000 in
set_option maxHeartbeats 0 in
theorem C_168 {X : mm_X} {d : Nat} {M : mm_M} {Q : Option Value → mm_M → Prop} {a : Int32} {b : Int32} (hX : g_X X) (hd : 0 ≤ d) (hG : g_G M) (q1 : 0 ≤ a.toInt) (q2 : a.toInt ≤ 64) (q3 : b.toInt ≤ 63) (h : ∀ (r : Int64) (M1 : mm_M), g_G M1 → FR md_0 M M1 → Q (some (.long r)) M1) : mm_T X d 167 0 [.int a, .int b, .null, .null, .null] [] M Q := by
  have F0 : FR md_0 M M := FR.rf
  refine s_cl (pc := 0) rw_168_0 rfl (fun l7 => to_lsn (pc := 1) rw_168_1 (ls2 := [.int a, .int b, .long l7, .null, .null]) rfl rfl (to_in (pc := 2) rw_168_2 rfl (to_is (pc := 3) rw_168_3 (ls2 := [.int a, .int b, .long l7, .null, .int a]) rfl rfl ?_)))
  exact (T_168_0 (a := a) (b := b) hX hd q1 q2 q3 h ((64 - a.toInt).toNat + 1)) M (.int a) l7 a hG F0 (by omega) (by omega) (by omega)
set_option maxRecDepth 4000 in
set_option maxHeartbeats 0 in
theorem C_169 {X : mm_X} {d : Nat} {M : mm_M} {Q : Option Value → mm_M → Prop} (hX : g_X X) (hd : 2 ≤ d) (hG : g_G M) (h : ∀ (r : Int32) (M1 : mm_M), g_G M1 → FR md_wr2 M M1 → (0 ≤ r.toInt) → (r.toInt ≤ 1) → Q (some (.int r)) M1) : mm_T X d 168 0 [.ref 77] [] M Q := by
  have F0 : FR md_wr2 M M := FR.rf
  refine to_an (pc := 0) rw_169_0 rfl ?_
  have b_1 := g_b hG (a := 77) (i := 8) (lo := 0) (hi := 5) rfl rfl
  refine tt_gI (pc := 1) rw_169_1 (g_o hG rfl) (v := (M.2.1 77 8)) rfl (to_c (pc := 4) rw_169_4 (x := (2 : Int32)) rfl rfl (b_ceq (pc := 5) rw_169_5 (A := (M.2.1 77 8).toInt) (B := 2) rfl rfl (fun h2 => ?_) (fun h2 => ?_)))
  · refine to_an (pc := 14) rw_169_14 rfl (to_an (pc := 15) rw_169_15 rfl (tt_gI (pc := 16) rw_169_16 (g_o hG rfl) (v := (M.2.1 77 9)) rfl (s_v (pc := 19) rw_169_19 (dp0 hd (by decide)) (ls0 := [.ref 77, .int (M.2.1 77 9), .null]) rfl (Nat.le_of_ble_eq_true rfl) (Nat.le_of_ble_eq_true rfl) rfl (to_rc rfl rfl rfl (g_o hG rfl)) rfl (C_167 hX (dp1 hd (by decide)) hG (n := (M.2.1 77 9)) (fun r3 M8 hG5 F4 p_6 p_7 => ?_)))))
    have F9 := FR.c F0 F4 tg_36
    refine b_ieq (pc := 22) rw_169_22 (A := r3.toInt) rfl (fun h10 => ?_) (fun h10 => ?_)
    · refine to_c (pc := 33) rw_169_33 (x := (1 : Int32)) rfl rfl (to_go (pc := 34) rw_169_34 (s_r1 (pc := 38) rw_169_38 (A := 1) rfl (by decide) ?_))
      have k_11 : (1 : Int32).toInt = 1 := rfl
      exact h (1 : Int32) M8 hG5 F9 (by decide) (by decide)
    · refine to_an (pc := 25) rw_169_25 rfl (to_c (pc := 26) rw_169_26 (x := (3 : Int32)) rfl rfl (s_v (pc := 27) rw_169_27 (dp0 hd (by decide)) (ls0 := [.ref 77, .int (3 : Int32)]) rfl (Nat.le_of_ble_eq_true rfl) (Nat.le_of_ble_eq_true rfl) rfl (to_rc rfl rfl rfl (g_o hG5 rfl)) rfl (to_an (pc := 0) rw_152_0 rfl (to_in (pc := 1) rw_152_1 rfl (s_pI (pc := 2) rw_152_2 hG5 rfl (fun M13 W12 => ?_))))))
      have hG14 := g_wf hG5 W12 rfl rfl (by decide)
      have F15 := FR.w F9 W12 (show 77 = 77 ∧ (4 = 4 ∨ 4 = 5) by decide)
      refine to_an (pc := 5) rw_152_5 rfl (to_an (pc := 6) rw_152_6 rfl ?_)
      have c_16 : M13.2.1 77 10 = (M.2.1 77 10) := (W_n W12 (by decide) (F_n F4 (show ¬ (77 < 0) by decide) rfl))
      have b_17 := g_b hG (a := 77) (i := 10) (lo := 0) (hi := 500) rfl rfl
      refine tt_gI (pc := 7) rw_152_7 (g_o hG14 rfl) (v := (M.2.1 77 10)) c_16 (s_pI (pc := 10) rw_152_10 hG14 rfl (fun M19 W18 => ?_))
      have hG20 := g_wf hG14 W18 rfl rfl (by decide)
      have F21 := FR.w F15 W18 (show 77 = 77 ∧ (5 = 4 ∨ 5 = 5) by decide)
      refine to_c (pc := 13) rw_152_13 (x := (0 : Int32)) rfl rfl (s_r1 (pc := 14) rw_152_14 (A := 0) rfl (by decide) (b_ieq_t (pc := 30) rw_169_30 (A := 0) rfl (by decide) (to_c (pc := 37) rw_169_37 (x := (0 : Int32)) rfl rfl (s_r1 (pc := 38) rw_169_38 (A := 0) rfl (by decide) ?_))))
      have k_22 : (0 : Int32).toInt = 0 := rfl
      exact h (0 : Int32) M19 hG20 F21 (by decide) (by decide)
  · refine to_an (pc := 8) rw_169_8 rfl (to_c (pc := 9) rw_169_9 (x := (1 : Int32)) rfl rfl (s_v (pc := 10) rw_169_10 (dp0 hd (by decide)) (ls0 := [.ref 77, .int (1 : Int32)]) rfl (Nat.le_of_ble_eq_true rfl) (Nat.le_of_ble_eq_true rfl) rfl (to_rc rfl rfl rfl (g_o hG rfl)) rfl (to_an (pc := 0) rw_152_0 rfl (to_in (pc := 1) rw_152_1 rfl (s_pI (pc := 2) rw_152_2 hG rfl (fun M24 W23 => ?_))))))
    have hG25 := g_wf hG W23 rfl rfl (by decide)
    have F26 := FR.w F0 W23 (show 77 = 77 ∧ (4 = 4 ∨ 4 = 5) by decide)
    refine to_an (pc := 5) rw_152_5 rfl (to_an (pc := 6) rw_152_6 rfl ?_)
    have c_27 : M24.2.1 77 10 = (M.2.1 77 10) := (W_n W23 (by decide) rfl)
    have b_28 := g_b hG (a := 77) (i := 10) (lo := 0) (hi := 500) rfl rfl
    refine tt_gI (pc := 7) rw_152_7 (g_o hG25 rfl) (v := (M.2.1 77 10)) c_27 (s_pI (pc := 10) rw_152_10 hG25 rfl (fun M30 W29 => ?_))
    have hG31 := g_wf hG25 W29 rfl rfl (by decide)
    have F32 := FR.w F26 W29 (show 77 = 77 ∧ (5 = 4 ∨ 5 = 5) by decide)
    refine to_c (pc := 13) rw_152_13 (x := (0 : Int32)) rfl rfl (s_r1 (pc := 14) rw_152_14 (A := 0) rfl (by decide) (s_r1 (pc := 13) rw_169_13 (A := 0) rfl (by decide) ?_))
    have k_33 : (0 : Int32).toInt = 0 := rfl
    exact h (0 : Int32) M30 hG31 F32 (by decide) (by decide)
set_option maxRecDepth 4000 in
set_option maxHeartbeats 0 in
theorem C_164 {X : mm_X} {d : Nat} {M : mm_M} {Q : Option Value → mm_M → Prop} (hX : g_X X) (hd : 0 ≤ d) (hG : g_G M) (h : ∀ (M1 : mm_M), g_G M1 → FR md_p0 M M1 → ((M1.2.1 77 16).toInt = 0) → ((M1.2.1 77 15).toInt = 0) → ((M1.2.1 77 14).toInt = 10) → Q (none) M1) : mm_T X d 163 0 [.ref 77] [] M Q := by
  have F0 : FR md_p0 M M := FR.rf
  refine to_an (pc := 0) rw_164_0 rfl (to_c (pc := 1) rw_164_1 (x := (10 : Int32)) rfl rfl (s_pI (pc := 3) rw_164_3 hG rfl (fun M2 W1 => ?_)))
  have hG3 := g_w hG W1 (A := 10) rfl (lo := 10) (hi := 60) rfl rfl (by omega) (by decide)
  have F4 := FR.w F0 W1 (show 77 = 77 ∧ (14 ≤ 14 ∧ 14 ≤ 16 ∨ 14 = 25) by decide)
  refine to_an (pc := 6) rw_164_6 rfl (to_c (pc := 7) rw_164_7 (x := (0 : Int32)) rfl rfl (s_pI (pc := 8) rw_164_8 hG3 rfl (fun M6 W5 => ?_)))
  have hG7 := g_w hG3 W5 (A := 0) rfl (lo := 0) (hi := 8) rfl rfl (by omega) (by decide)
  have F8 := FR.w F4 W5 (show 77 = 77 ∧ (14 ≤ 15 ∧ 15 ≤ 16 ∨ 15 = 25) by decide)
  refine to_an (pc := 11) rw_164_11 rfl (to_c (pc := 12) rw_164_12 (x := (0 : Int32)) rfl rfl (s_pI (pc := 13) rw_164_13 hG7 rfl (fun M10 W9 => ?_)))
  have hG11 := g_w hG7 W9 (A := 0) rfl (lo := 0) (hi := 12) rfl rfl (by omega) (by decide)
  have F12 := FR.w F8 W9 (show 77 = 77 ∧ (14 ≤ 16 ∧ 16 ≤ 16 ∨ 16 = 25) by decide)
  refine to_an (pc := 16) rw_164_16 rfl (s_cl (pc := 17) rw_164_17 rfl (fun l13 => s_pJ (pc := 18) rw_164_18 hG11 rfl (fun M15 W14 => ?_)))
  have hG16 := g_wl hG11 W14
  have F17 := FR.wl F12 W14 (show 77 = 77 ∧ (14 ≤ 25 ∧ 25 ≤ 16 ∨ 25 = 25) by decide)
  refine to_rv (pc := 21) rw_164_21 ?_
  have c_18 : M15.2.1 77 16 = (0 : Int32) := (W_l W14 (W_e W9))
  have k_19 : (0 : Int32).toInt = 0 := rfl
  have t_20 : (M15.2.1 77 16).toInt = (0 : Int32).toInt := congrArg Int32.toInt c_18
  have c_21 : M15.2.1 77 15 = (0 : Int32) := (W_l W14 (W_n W9 (by decide) (W_e W5)))
  have t_22 : (M15.2.1 77 15).toInt = (0 : Int32).toInt := congrArg Int32.toInt c_21
  have c_23 : M15.2.1 77 14 = (10 : Int32) := (W_l W14 (W_n W9 (by decide) (W_n W5 (by decide) (W_e W1))))
  have k_24 : (10 : Int32).toInt = 10 := rfl
  have t_25 : (M15.2.1 77 14).toInt = (10 : Int32).toInt := congrArg Int32.toInt c_23
  exact h M15 hG16 F17 (by omega) (by omega) (by omega)
set_option maxRecDepth 4000 in
set_option maxHeartbeats 0 in
theorem T_170_0 {X : mm_X} {d : Nat} {M : mm_M} {Q : Option Value → mm_M → Prop} (hX : g_X X) (hd : 3 ≤ d) (q1 : (M.2.1 77 7).toInt ≤ (M.2.1 77 6).toInt) (q2 : FA M) (q3 : WR M) (h : ∀ (r : Int32) (M1 : mm_M), g_G M1 → FR md_pl M M1 → (0 ≤ r.toInt) → (r.toInt ≤ 1) → ((M1.2.1 77 7).toInt ≤ (M1.2.1 77 6).toInt) → ((M.2.1 77 7).toInt ≤ (M1.2.1 77 7).toInt) → (r.toInt = 1 → (M1.2.1 77 8).toInt = 0 ∨ (M.2.1 77 7).toInt < (M1.2.1 77 7).toInt) → FA M1 → WR M1 → Q (some (.int r)) M1) : ∀ nn9 : Nat, (∀ (N : mm_M) (x1 : Int32) (x2 : Int32) (x3 : Int32) (u4 : Value) (u5 : Value) (x6 : Int32) (x7 : Int32) (x8 : Int32), g_G N → FR md_pl M N → (8 ≤ x1.toInt) → (x1.toInt ≤ 15) → (x1.toInt = 8 + (N.2.1 77 15).toInt) → (0 ≤ x3.toInt) → (x3.toInt ≤ 3) → (0 ≤ x6.toInt) → (x6.toInt ≤ 59) → (0 ≤ x7.toInt) → (x7.toInt ≤ 63) → (0 ≤ x8.toInt) → (x8.toInt ≤ 24) → (((x3.toInt = 1 ∨ x3.toInt = 2) → x8.toInt ≤ 10) ∧ (x3.toInt = 3 → 1 ≤ x8.toInt ∧ x8.toInt ≤ 4 ∧ x8.toInt ≤ x7.toInt - x6.toInt + 1) ∧ x6.toInt ≤ x7.toInt) → ((N.2.1 77 7).toInt ≤ (N.2.1 77 6).toInt) → ((M.2.1 77 7).toInt ≤ (N.2.1 77 7).toInt) → ((N.2.1 77 8).toInt = 0 ∨ (M.2.1 77 7).toInt < (N.2.1 77 7).toInt) → (FA N) → (WR N) → (0 : Int) < (nn9 : Int) → mm_T X d 169 318 [.ref 77, .int x1, .int x2, .int x3, u4, u5, .int x6, .int x7, .int x8] [] N Q) := by
  intro nn9
  induction nn9 with
  | zero =>
    intro N x1 x2 x3 u4 u5 x6 x7 x8 hG F0 g1 g2 g3 g4 g5 g6 g7 g8 g9 g10 g11 g12 g13 g14 g15 g16 g17 hm
    have b_1 := g_b hG (a := 77) (i := 15) (lo := 0) (hi := 8) rfl rfl
    have b_2 := g_b hG (a := 77) (i := 7) (lo := 0) (hi := 500) rfl rfl
    have b_3 := g_b hG (a := 77) (i := 6) (lo := 0) (hi := 500) rfl rfl
    have b_4 := g_b hG (a := 77) (i := 8) (lo := 0) (hi := 5) rfl rfl
    exfalso; omega
  | succ nn9 ih =>
    intro N x1 x2 x3 u4 u5 x6 x7 x8 hG F0 g1 g2 g3 g4 g5 g6 g7 g8 g9 g10 g11 g12 g13 g14 g15 g16 g17 hm
    have b_5 := g_b hG (a := 77) (i := 15) (lo := 0) (hi := 8) rfl rfl
    have b_6 := g_b hG (a := 77) (i := 7) (lo := 0) (hi := 500) rfl rfl
    have b_7 := g_b hG (a := 77) (i := 6) (lo := 0) (hi := 500) rfl rfl
    have b_8 := g_b hG (a := 77) (i := 8) (lo := 0) (hi := 5) rfl rfl
    refine to_an (pc := 318) rw_170_318 rfl (to_dupr (pc := 319) rw_170_319 (s_gJ (pc := 320) rw_170_320 hG rfl (fun l9 => to_i (pc := 323) rw_170_323 rfl (to_i (pc := 325) rw_170_325 rfl (s_s (pc := 327) rw_170_327 (dp0 hd (by decide)) (ls0 := [.int x6, .int x7, .null, .null, .null]) rfl (Nat.le_of_ble_eq_true rfl) (Nat.le_of_ble_eq_true rfl) rfl (to_rcs rfl rfl) rfl (C_168 hX (dp1 hd (by decide)) hG (by omega) (by omega) (by omega) (a := x6) (b := x7) (fun r10 M13 hG12 F11 => ?_)))))))
    have F14 := FR.c F0 F11 tg_227
    refine s_anyL (pc := 330) rw_170_330 (fun _ _ => rfl) (fun l15 => s_pJ (pc := 331) rw_170_331 hG12 rfl (fun M17 W16 => ?_))
    have hG18 := g_wl hG12 W16
    have F19 := FR.wl F14 W16 (show 77 = 77 ∧ (25 = 4 ∨ 25 = 5 ∨ 7 ≤ 25 ∧ 25 ≤ 10 ∨ 14 ≤ 25 ∧ 25 ≤ 16 ∨ 25 = 25) ∨ 80 ≤ 77 ∧ 77 ≤ 84 ∧ 8 ≤ 25 ∨ 85 ≤ 77 ∧ 77 ≤ 87 ∧ 12 ≤ 25 by decide)
    refine to_an (pc := 334) rw_170_334 rfl (s_gR (pc := 335) rw_170_335 hG18 rfl (v := 80) rfl (to_in (pc := 338) rw_170_338 rfl (to_in (pc := 339) rw_170_339 rfl (s_ias (pc := 340) rw_170_340 hG18 rfl (n := 16) rfl (A := x1.toInt) rfl (by omega) (by omega) (fun M21 W20 => ?_)))))
    have hG22 := g_wf hG18 W20 rfl rfl (by decide)
    have F23 := FR.w F19 W20 (show 80 = 77 ∧ ((x1.toInt).toNat = 4 ∨ (x1.toInt).toNat = 5 ∨ 7 ≤ (x1.toInt).toNat ∧ (x1.toInt).toNat ≤ 10 ∨ 14 ≤ (x1.toInt).toNat ∧ (x1.toInt).toNat ≤ 16 ∨ (x1.toInt).toNat = 25) ∨ 80 ≤ 80 ∧ 80 ≤ 84 ∧ 8 ≤ (x1.toInt).toNat ∨ 85 ≤ 80 ∧ 80 ≤ 87 ∧ 12 ≤ (x1.toInt).toNat by omega)
    have j_24 := (FA_f (fun a i z => W_n W20 (tg_229 a i _ z) rfl) (FA_f (fun a i z => W_l W16 rfl) (FA_f (tg_218 F11) g16)))
    have j_25 := (WR_f (fun a i z => W_n W20 (by /-r80-/ omega) rfl) (WR_f (fun a i z => W_l W16 rfl) (WR_f (tg_219 F11) g17)))
    have c_26 : M21.2.1 77 15 = (N.2.1 77 15) := (W_n W20 (fun z => absurd z.1 (by decide)) (W_l W16 (F_n F11 (show ¬ (77 < 0) by decide) rfl)))
    have t_27 : (M21.2.1 77 15).toInt = (N.2.1 77 15).toInt := congrArg Int32.toInt c_26
    refine to_an (pc := 341) rw_170_341 rfl (s_gR (pc := 342) rw_170_342 hG22 rfl (v := 81) rfl (to_in (pc := 345) rw_170_345 rfl (to_in (pc := 346) rw_170_346 rfl (s_ias (pc := 347) rw_170_347 hG22 rfl (n := 16) rfl (A := x1.toInt) rfl (by omega) (by omega) (fun M29 W28 => ?_)))))
    have hG30 := g_w hG22 W28 (A := x3.toInt) rfl (lo := 0) (hi := 3) rfl rfl (by omega) (by decide)
    have F31 := FR.w F23 W28 (show 81 = 77 ∧ ((x1.toInt).toNat = 4 ∨ (x1.toInt).toNat = 5 ∨ 7 ≤ (x1.toInt).toNat ∧ (x1.toInt).toNat ≤ 10 ∨ 14 ≤ (x1.toInt).toNat ∧ (x1.toInt).toNat ≤ 16 ∨ (x1.toInt).toNat = 25) ∨ 80 ≤ 81 ∧ 81 ≤ 84 ∧ 8 ≤ (x1.toInt).toNat ∨ 85 ≤ 81 ∧ 81 ≤ 87 ∧ 12 ≤ (x1.toInt).toNat by omega)
    refine to_an (pc := 348) rw_170_348 rfl (s_gR (pc := 349) rw_170_349 hG30 rfl (v := 82) rfl (to_in (pc := 352) rw_170_352 rfl (to_i (pc := 353) rw_170_353 rfl (s_ias (pc := 355) rw_170_355 hG30 rfl (n := 16) rfl (A := x1.toInt) rfl (by omega) (by omega) (fun M33 W32 => ?_)))))
    have hG34 := g_w hG30 W32 (A := x6.toInt) rfl (lo := 0) (hi := 59) rfl rfl (by omega) (by decide)
    have F35 := FR.w F31 W32 (show 82 = 77 ∧ ((x1.toInt).toNat = 4 ∨ (x1.toInt).toNat = 5 ∨ 7 ≤ (x1.toInt).toNat ∧ (x1.toInt).toNat ≤ 10 ∨ 14 ≤ (x1.toInt).toNat ∧ (x1.toInt).toNat ≤ 16 ∨ (x1.toInt).toNat = 25) ∨ 80 ≤ 82 ∧ 82 ≤ 84 ∧ 8 ≤ (x1.toInt).toNat ∨ 85 ≤ 82 ∧ 82 ≤ 87 ∧ 12 ≤ (x1.toInt).toNat by omega)
    refine to_an (pc := 356) rw_170_356 rfl (s_gR (pc := 357) rw_170_357 hG34 rfl (v := 83) rfl (to_in (pc := 360) rw_170_360 rfl (to_i (pc := 361) rw_170_361 rfl (s_ias (pc := 363) rw_170_363 hG34 rfl (n := 16) rfl (A := x1.toInt) rfl (by omega) (by omega) (fun M37 W36 => ?_)))))
    have hG38 := g_w hG34 W36 (A := x7.toInt) rfl (lo := 0) (hi := 63) rfl rfl (by omega) (by decide)
    have F39 := FR.w F35 W36 (show 83 = 77 ∧ ((x1.toInt).toNat = 4 ∨ (x1.toInt).toNat = 5 ∨ 7 ≤ (x1.toInt).toNat ∧ (x1.toInt).toNat ≤ 10 ∨ 14 ≤ (x1.toInt).toNat ∧ (x1.toInt).toNat ≤ 16 ∨ (x1.toInt).toNat = 25) ∨ 80 ≤ 83 ∧ 83 ≤ 84 ∧ 8 ≤ (x1.toInt).toNat ∨ 85 ≤ 83 ∧ 83 ≤ 87 ∧ 12 ≤ (x1.toInt).toNat by omega)
    refine to_an (pc := 364) rw_170_364 rfl (s_gR (pc := 365) rw_170_365 hG38 rfl (v := 84) rfl (to_in (pc := 368) rw_170_368 rfl (to_i (pc := 369) rw_170_369 rfl (s_ias (pc := 371) rw_170_371 hG38 rfl (n := 16) rfl (A := x1.toInt) rfl (by omega) (by omega) (fun M41 W40 => ?_)))))
    have hG42 := g_w hG38 W40 (A := x8.toInt) rfl (lo := 0) (hi := 24) rfl rfl (by omega) (by decide)
    have F43 := FR.w F39 W40 (show 84 = 77 ∧ ((x1.toInt).toNat = 4 ∨ (x1.toInt).toNat = 5 ∨ 7 ≤ (x1.toInt).toNat ∧ (x1.toInt).toNat ≤ 10 ∨ 14 ≤ (x1.toInt).toNat ∧ (x1.toInt).toNat ≤ 16 ∨ (x1.toInt).toNat = 25) ∨ 80 ≤ 84 ∧ 84 ≤ 84 ∧ 8 ≤ (x1.toInt).toNat ∨ 85 ≤ 84 ∧ 84 ≤ 87 ∧ 12 ≤ (x1.toInt).toNat by omega)
    have j_44 := FA_k j_24 W28 W32 W36 W40 (by omega)
    refine to_an (pc := 372) rw_170_372 rfl (to_dupr (pc := 373) rw_170_373 ?_)
    have c_45 : M41.2.1 77 15 = (N.2.1 77 15) := (W_n W40 (fun z => absurd z.1 (by decide)) (W_n W36 (fun z => absurd z.1 (by decide)) (W_n W32 (fun z => absurd z.1 (by decide)) (W_n W28 (fun z => absurd z.1 (by decide)) c_26))))
    refine tt_gI (pc := 374) rw_170_374 (g_o hG42 rfl) (v := (N.2.1 77 15)) c_45 (to_c (pc := 377) rw_170_377 (x := (1 : Int32)) rfl rfl (s_add (pc := 378) rw_170_378 (A := (N.2.1 77 15).toInt) (B := 1) rfl rfl (by omega) (fun v46 e47 => s_pI (pc := 379) rw_170_379 hG42 rfl (fun M49 W48 => ?_))))
    have hG50 := g_w hG42 W48 (A := v46.toInt) rfl (lo := 0) (hi := 8) rfl rfl (by omega) (by decide)
    have F51 := FR.w F43 W48 (show 77 = 77 ∧ (15 = 4 ∨ 15 = 5 ∨ 7 ≤ 15 ∧ 15 ≤ 10 ∨ 14 ≤ 15 ∧ 15 ≤ 16 ∨ 15 = 25) ∨ 80 ≤ 77 ∧ 77 ≤ 84 ∧ 8 ≤ 15 ∨ 85 ≤ 77 ∧ 77 ≤ 87 ∧ 12 ≤ 15 by decide)
    have j_52 := WR_field (M1 := M49) (n := ((M21.2.1 77 15).toInt).toNat) j_25 (by omega) (W_n W48 (by omega) (W_n W40 (by omega) (W_n W36 (by omega) (W_n W32 (by omega) (W_n W28 (by omega) rfl))))) (fun i => (W_n W48 (by omega) (W_n W40 (by omega) (W_n W36 (by omega) (W_n W32 (by omega) (W_n W28 (by omega) rfl)))))) (fun i z => (W_n W48 (by omega) (W_n W40 (by omega) (W_n W36 (by omega) (W_n W32 (by omega) (W_n W28 (by omega) rfl)))))) (by have z := congrArg Int32.toInt (W_e W48); omega)
    refine to_c (pc := 382) rw_170_382 (x := (1 : Int32)) rfl rfl (s_r1 (pc := 383) rw_170_383 (A := 1) rfl (by decide) ?_)
    have k_53 : (1 : Int32).toInt = 1 := rfl
    have c_54 : M49.2.1 77 7 = (N.2.1 77 7) := (W_n W48 (by decide) (W_n W40 (fun z => absurd z.1 (by decide)) (W_n W36 (fun z => absurd z.1 (by decide)) (W_n W32 (fun z => absurd z.1 (by decide)) (W_n W28 (fun z => absurd z.1 (by decide)) (W_n W20 (fun z => absurd z.1 (by decide)) (W_l W16 (F_n F11 (show ¬ (77 < 0) by decide) rfl))))))))
    have t_55 : (M49.2.1 77 7).toInt = (N.2.1 77 7).toInt := congrArg Int32.toInt c_54
    have c_56 : M49.2.1 77 6 = (N.2.1 77 6) := (W_n W48 (by decide) (W_n W40 (fun z => absurd z.1 (by decide)) (W_n W36 (fun z => absurd z.1 (by decide)) (W_n W32 (fun z => absurd z.1 (by decide)) (W_n W28 (fun z => absurd z.1 (by decide)) (W_n W20 (fun z => absurd z.1 (by decide)) (W_l W16 (F_n F11 (show ¬ (77 < 0) by decide) rfl))))))))
    have t_57 : (M49.2.1 77 6).toInt = (N.2.1 77 6).toInt := congrArg Int32.toInt c_56
    have c_58 : M49.2.1 77 8 = (N.2.1 77 8) := (W_n W48 (by decide) (W_n W40 (fun z => absurd z.1 (by decide)) (W_n W36 (fun z => absurd z.1 (by decide)) (W_n W32 (fun z => absurd z.1 (by decide)) (W_n W28 (fun z => absurd z.1 (by decide)) (W_n W20 (fun z => absurd z.1 (by decide)) (W_l W16 (F_n F11 (show ¬ (77 < 0) by decide) rfl))))))))
    have t_59 : (M49.2.1 77 8).toInt = (N.2.1 77 8).toInt := congrArg Int32.toInt c_58
    have j_60 := (FA_f (fun a i z => W_n W48 (tg_230 a i z) rfl) j_44)
    exact h (1 : Int32) M49 hG50 F51 (by decide) (by decide) (by omega) (by omega) (by omega) j_60 j_52
set_option maxRecDepth 4000 in
set_option maxHeartbeats 0 in
theorem C_170 {X : mm_X} {d : Nat} {M : mm_M} {Q : Option Value → mm_M → Prop} (hX : g_X X) (hd : 3 ≤ d) (hG : g_G M) (q1 : (M.2.1 77 7).toInt ≤ (M.2.1 77 6).toInt) (q2 : FA M) (q3 : WR M) (h : ∀ (r : Int32) (M1 : mm_M), g_G M1 → FR md_pl M M1 → (0 ≤ r.toInt) → (r.toInt ≤ 1) → ((M1.2.1 77 7).toInt ≤ (M1.2.1 77 6).toInt) → ((M.2.1 77 7).toInt ≤ (M1.2.1 77 7).toInt) → (r.toInt = 1 → (M1.2.1 77 8).toInt = 0 ∨ (M.2.1 77 7).toInt < (M1.2.1 77 7).toInt) → FA M1 → WR M1 → Q (some (.int r)) M1) : mm_T X d 169 0 [.ref 77, .null, .null, .null, .null, .null, .null, .null, .null] [] M Q := by
  have F0 : FR md_pl M M := FR.rf
  have b_61 := g_b hG (a := 77) (i := 7) (lo := 0) (hi := 500) rfl rfl
  have b_62 := g_b hG (a := 77) (i := 6) (lo := 0) (hi := 500) rfl rfl
  refine to_an (pc := 0) rw_170_0 rfl ?_
  have b_63 := g_b hG (a := 77) (i := 15) (lo := 0) (hi := 8) rfl rfl
  refine tt_gI (pc := 1) rw_170_1 (g_o hG rfl) (v := (M.2.1 77 15)) rfl (to_c (pc := 4) rw_170_4 (x := (8 : Int32)) rfl rfl (b_cne (pc := 6) rw_170_6 (A := (M.2.1 77 15).toInt) (B := 8) rfl rfl (fun h64 => ?_) (fun h64 => ?_)))
  · refine to_an (pc := 15) rw_170_15 rfl (s_v (pc := 16) rw_170_16 (dp0 hd (by decide)) (ls0 := [.ref 77]) rfl (Nat.le_of_ble_eq_true rfl) (Nat.le_of_ble_eq_true rfl) rfl (to_rc rfl rfl rfl (g_o hG rfl)) rfl (C_156 hX (dp1 hd (by decide)) hG (by omega)  (fun M70 hG66 F65 p_67 p_68 p_69 => ?_)))
    have F71 := FR.c F0 F65 tg_79
    have b_72 := g_b hG66 (a := 77) (i := 7) (lo := 0) (hi := 500) rfl rfl
    have c_73 : M70.2.1 77 6 = (M.2.1 77 6) := (F_n F65 (show ¬ (77 = 77 ∧ 7 ≤ 6 ∧ 6 ≤ 10) by decide) rfl)
    have t_74 : (M70.2.1 77 6).toInt = (M.2.1 77 6).toInt := congrArg Int32.toInt c_73
    have b_75 := g_b hG66 (a := 77) (i := 8) (lo := 0) (hi := 5) rfl rfl
    refine to_an (pc := 19) rw_170_19 rfl (s_v (pc := 20) rw_170_20 (dp0 hd (by decide)) (ls0 := [.ref 77]) rfl (Nat.le_of_ble_eq_true rfl) (Nat.le_of_ble_eq_true rfl) rfl (to_rc rfl rfl rfl (g_o hG66 rfl)) rfl (C_169 hX (dp1 hd (by decide)) hG66  (fun r76 M81 hG78 F77 p_79 p_80 => ?_)))
    have F82 := FR.c F71 F77 tg_80
    refine b_ine (pc := 23) rw_170_23 (A := r76.toInt) rfl (fun h83 => ?_) (fun h83 => ?_)
    · refine to_c (pc := 28) rw_170_28 (x := (8 : Int32)) rfl rfl (to_an (pc := 30) rw_170_30 rfl ?_)
      have c_84 : M81.2.1 77 15 = (M.2.1 77 15) := (F_n F77 (show ¬ (77 = 77 ∧ (15 = 4 ∨ 15 = 5)) by decide) (F_n F65 (show ¬ (77 = 77 ∧ 7 ≤ 15 ∧ 15 ≤ 10) by decide) rfl))
      refine tt_gI (pc := 31) rw_170_31 (g_o hG78 rfl) (v := (M.2.1 77 15)) c_84 (s_add (pc := 34) rw_170_34 (A := 8) (B := (M.2.1 77 15).toInt) rfl rfl (by omega) (fun v85 e86 => to_isn (pc := 35) rw_170_35 (ls2 := [.ref 77, .int v85, .null, .null, .null, .null, .null, .null, .null]) rfl rfl (to_an (pc := 36) rw_170_36 rfl ?_)))
      have c_87 : M81.2.1 77 9 = (M70.2.1 77 9) := (F_n F77 (show ¬ (77 = 77 ∧ (9 = 4 ∨ 9 = 5)) by decide) rfl)
      refine tt_gI (pc := 37) rw_170_37 (g_o hG78 rfl) (v := (M70.2.1 77 9)) c_87 (to_isn (pc := 40) rw_170_40 (ls2 := [.ref 77, .int v85, .int (M70.2.1 77 9), .null, .null, .null, .null, .null, .null]) rfl rfl (to_an (pc := 41) rw_170_41 rfl (s_v (pc := 42) rw_170_42 (dp0 hd (by decide)) (ls0 := [.ref 77]) rfl (Nat.le_of_ble_eq_true rfl) (Nat.le_of_ble_eq_true rfl) rfl (to_rc rfl rfl rfl (g_o hG78 rfl)) rfl ?_)))
      have c_88 : M81.2.1 77 7 = (M70.2.1 77 7) := (F_n F77 (show ¬ (77 = 77 ∧ (7 = 4 ∨ 7 = 5)) by decide) rfl)
      have t_89 : (M81.2.1 77 7).toInt = (M70.2.1 77 7).toInt := congrArg Int32.toInt c_88
      have c_90 : M81.2.1 77 6 = (M.2.1 77 6) := (F_n F77 (show ¬ (77 = 77 ∧ (6 = 4 ∨ 6 = 5)) by decide) c_73)
      have t_91 : (M81.2.1 77 6).toInt = (M.2.1 77 6).toInt := congrArg Int32.toInt c_90
      refine C_156 hX (dp1 hd (by decide)) hG78 (by omega)  (fun M97 hG93 F92 p_94 p_95 p_96 => ?_)
      have F98 := FR.c F82 F92 tg_79
      have b_99 := g_b hG93 (a := 77) (i := 7) (lo := 0) (hi := 500) rfl rfl
      have c_100 : M97.2.1 77 6 = (M.2.1 77 6) := (F_n F92 (show ¬ (77 = 77 ∧ 7 ≤ 6 ∧ 6 ≤ 10) by decide) c_90)
      have t_101 : (M97.2.1 77 6).toInt = (M.2.1 77 6).toInt := congrArg Int32.toInt c_100
      have b_102 := g_b hG93 (a := 77) (i := 8) (lo := 0) (hi := 5) rfl rfl
      refine to_an (pc := 45) rw_170_45 rfl (tt_gI (pc := 46) rw_170_46 (g_o hG93 rfl) (v := (M97.2.1 77 8)) rfl (to_c (pc := 49) rw_170_49 (x := (1 : Int32)) rfl rfl (b_cne (pc := 50) rw_170_50 (A := (M97.2.1 77 8).toInt) (B := 1) rfl rfl (fun h103 => ?_) (fun h103 => ?_))))
      · refine to_an (pc := 70) rw_170_70 rfl (to_c (pc := 71) rw_170_71 (x := (1 : Int32)) rfl rfl (s_v (pc := 72) rw_170_72 (dp0 hd (by decide)) (ls0 := [.ref 77, .int (1 : Int32)]) rfl (Nat.le_of_ble_eq_true rfl) (Nat.le_of_ble_eq_true rfl) rfl (to_rc rfl rfl rfl (g_o hG93 rfl)) rfl (to_an (pc := 0) rw_152_0 rfl (to_in (pc := 1) rw_152_1 rfl (s_pI (pc := 2) rw_152_2 hG93 rfl (fun M105 W104 => ?_))))))
        have hG106 := g_wf hG93 W104 rfl rfl (by decide)
        have F107 := FR.w F98 W104 (show 77 = 77 ∧ (4 = 4 ∨ 4 = 5 ∨ 7 ≤ 4 ∧ 4 ≤ 10 ∨ 14 ≤ 4 ∧ 4 ≤ 16 ∨ 4 = 25) ∨ 80 ≤ 77 ∧ 77 ≤ 84 ∧ 8 ≤ 4 ∨ 85 ≤ 77 ∧ 77 ≤ 87 ∧ 12 ≤ 4 by decide)
        refine to_an (pc := 5) rw_152_5 rfl (to_an (pc := 6) rw_152_6 rfl ?_)
        have c_108 : M105.2.1 77 10 = (M97.2.1 77 10) := (W_n W104 (by decide) rfl)
        have b_109 := g_b hG93 (a := 77) (i := 10) (lo := 0) (hi := 500) rfl rfl
        refine tt_gI (pc := 7) rw_152_7 (g_o hG106 rfl) (v := (M97.2.1 77 10)) c_108 (s_pI (pc := 10) rw_152_10 hG106 rfl (fun M111 W110 => ?_))
        have hG112 := g_wf hG106 W110 rfl rfl (by decide)
        have F113 := FR.w F107 W110 (show 77 = 77 ∧ (5 = 4 ∨ 5 = 5 ∨ 7 ≤ 5 ∧ 5 ≤ 10 ∨ 14 ≤ 5 ∧ 5 ≤ 16 ∨ 5 = 25) ∨ 80 ≤ 77 ∧ 77 ≤ 84 ∧ 8 ≤ 5 ∨ 85 ≤ 77 ∧ 77 ≤ 87 ∧ 12 ≤ 5 by decide)
        refine to_c (pc := 13) rw_152_13 (x := (0 : Int32)) rfl rfl (s_r1 (pc := 14) rw_152_14 (A := 0) rfl (by decide) (s_r1 (pc := 75) rw_170_75 (A := 0) rfl (by decide) ?_))
        have k_114 : (0 : Int32).toInt = 0 := rfl
        have c_115 : M111.2.1 77 7 = (M97.2.1 77 7) := (W_n W110 (by decide) (W_n W104 (by decide) rfl))
        have t_116 : (M111.2.1 77 7).toInt = (M97.2.1 77 7).toInt := congrArg Int32.toInt c_115
        have c_117 : M111.2.1 77 6 = (M.2.1 77 6) := (W_n W110 (by decide) (W_n W104 (by decide) c_100))
        have t_118 : (M111.2.1 77 6).toInt = (M.2.1 77 6).toInt := congrArg Int32.toInt c_117
        have c_119 : M111.2.1 77 8 = (M97.2.1 77 8) := (W_n W110 (by decide) (W_n W104 (by decide) rfl))
        have t_120 : (M111.2.1 77 8).toInt = (M97.2.1 77 8).toInt := congrArg Int32.toInt c_119
        have j_121 := (FA_f (fun a i z => W_n W110 (tg_231 a i z) rfl) (FA_f (fun a i z => W_n W104 (tg_232 a i z) rfl) (FA_f (tg_220 F92) (FA_f (tg_221 F77) (FA_f (tg_220 F65) q2)))))
        have j_122 := (WR_f (fun a i z => W_n W110 (by /-r77,5-/ omega) rfl) (WR_f (fun a i z => W_n W104 (by /-r77,4-/ omega) rfl) (WR_f (tg_222 F92) (WR_f (tg_223 F77) (WR_f (tg_222 F65) q3)))))
        exact h (0 : Int32) M111 hG112 F113 (by decide) (by decide) (by omega) (by omega) (by omega) j_121 j_122
      · refine to_an (pc := 53) rw_170_53 rfl (tt_gI (pc := 54) rw_170_54 (g_o hG93 rfl) (v := (M97.2.1 77 9)) rfl (to_c (pc := 57) rw_170_57 (x := (3 : Int32)) rfl rfl (b_clt (pc := 58) rw_170_58 (A := (M97.2.1 77 9).toInt) (B := 3) rfl rfl (fun h123 => ?_) (fun h123 => ?_))))
        · refine to_an (pc := 70) rw_170_70 rfl (to_c (pc := 71) rw_170_71 (x := (1 : Int32)) rfl rfl (s_v (pc := 72) rw_170_72 (dp0 hd (by decide)) (ls0 := [.ref 77, .int (1 : Int32)]) rfl (Nat.le_of_ble_eq_true rfl) (Nat.le_of_ble_eq_true rfl) rfl (to_rc rfl rfl rfl (g_o hG93 rfl)) rfl (to_an (pc := 0) rw_152_0 rfl (to_in (pc := 1) rw_152_1 rfl (s_pI (pc := 2) rw_152_2 hG93 rfl (fun M125 W124 => ?_))))))
          have hG126 := g_wf hG93 W124 rfl rfl (by decide)
          have F127 := FR.w F98 W124 (show 77 = 77 ∧ (4 = 4 ∨ 4 = 5 ∨ 7 ≤ 4 ∧ 4 ≤ 10 ∨ 14 ≤ 4 ∧ 4 ≤ 16 ∨ 4 = 25) ∨ 80 ≤ 77 ∧ 77 ≤ 84 ∧ 8 ≤ 4 ∨ 85 ≤ 77 ∧ 77 ≤ 87 ∧ 12 ≤ 4 by decide)
          refine to_an (pc := 5) rw_152_5 rfl (to_an (pc := 6) rw_152_6 rfl ?_)
          have c_128 : M125.2.1 77 10 = (M97.2.1 77 10) := (W_n W124 (by decide) rfl)
          have b_129 := g_b hG93 (a := 77) (i := 10) (lo := 0) (hi := 500) rfl rfl
          refine tt_gI (pc := 7) rw_152_7 (g_o hG126 rfl) (v := (M97.2.1 77 10)) c_128 (s_pI (pc := 10) rw_152_10 hG126 rfl (fun M131 W130 => ?_))
          have hG132 := g_wf hG126 W130 rfl rfl (by decide)
          have F133 := FR.w F127 W130 (show 77 = 77 ∧ (5 = 4 ∨ 5 = 5 ∨ 7 ≤ 5 ∧ 5 ≤ 10 ∨ 14 ≤ 5 ∧ 5 ≤ 16 ∨ 5 = 25) ∨ 80 ≤ 77 ∧ 77 ≤ 84 ∧ 8 ≤ 5 ∨ 85 ≤ 77 ∧ 77 ≤ 87 ∧ 12 ≤ 5 by decide)
          refine to_c (pc := 13) rw_152_13 (x := (0 : Int32)) rfl rfl (s_r1 (pc := 14) rw_152_14 (A := 0) rfl (by decide) (s_r1 (pc := 75) rw_170_75 (A := 0) rfl (by decide) ?_))
          have k_134 : (0 : Int32).toInt = 0 := rfl
          have c_135 : M131.2.1 77 7 = (M97.2.1 77 7) := (W_n W130 (by decide) (W_n W124 (by decide) rfl))
          have t_136 : (M131.2.1 77 7).toInt = (M97.2.1 77 7).toInt := congrArg Int32.toInt c_135
          have c_137 : M131.2.1 77 6 = (M.2.1 77 6) := (W_n W130 (by decide) (W_n W124 (by decide) c_100))
          have t_138 : (M131.2.1 77 6).toInt = (M.2.1 77 6).toInt := congrArg Int32.toInt c_137
          have c_139 : M131.2.1 77 8 = (M97.2.1 77 8) := (W_n W130 (by decide) (W_n W124 (by decide) rfl))
          have t_140 : (M131.2.1 77 8).toInt = (M97.2.1 77 8).toInt := congrArg Int32.toInt c_139
          have j_141 := (FA_f (fun a i z => W_n W130 (tg_231 a i z) rfl) (FA_f (fun a i z => W_n W124 (tg_232 a i z) rfl) (FA_f (tg_220 F92) (FA_f (tg_221 F77) (FA_f (tg_220 F65) q2)))))
          have j_142 := (WR_f (fun a i z => W_n W130 (by /-r77,5-/ omega) rfl) (WR_f (fun a i z => W_n W124 (by /-r77,4-/ omega) rfl) (WR_f (tg_222 F92) (WR_f (tg_223 F77) (WR_f (tg_222 F65) q3)))))
          exact h (0 : Int32) M131 hG132 F133 (by decide) (by decide) (by omega) (by omega) (by omega) j_141 j_142
        · refine to_an (pc := 61) rw_170_61 rfl (tt_gI (pc := 62) rw_170_62 (g_o hG93 rfl) (v := (M97.2.1 77 9)) rfl (to_c (pc := 65) rw_170_65 (x := (6 : Int32)) rfl rfl (b_cle (pc := 67) rw_170_67 (A := (M97.2.1 77 9).toInt) (B := 6) rfl rfl (fun h143 => ?_) (fun h143 => ?_))))
          · refine to_an (pc := 76) rw_170_76 rfl (tt_gI (pc := 77) rw_170_77 (g_o hG93 rfl) (v := (M97.2.1 77 9)) rfl (to_c (pc := 80) rw_170_80 (x := (3 : Int32)) rfl rfl (s_sub (pc := 81) rw_170_81 (A := (M97.2.1 77 9).toInt) (B := 3) rfl rfl (by omega) (fun v144 e145 => to_isn (pc := 82) rw_170_82 (ls2 := [.ref 77, .int v85, .int (M70.2.1 77 9), .int v144, .null, .null, .null, .null, .null]) rfl rfl (to_an (pc := 83) rw_170_83 rfl (s_v (pc := 84) rw_170_84 (dp0 hd (by decide)) (ls0 := [.ref 77]) rfl (Nat.le_of_ble_eq_true rfl) (Nat.le_of_ble_eq_true rfl) rfl (to_rc rfl rfl rfl (g_o hG93 rfl)) rfl (C_156 hX (dp1 hd (by decide)) hG93 (by omega)  (fun M151 hG147 F146 p_148 p_149 p_150 => ?_))))))))
            have F152 := FR.c F98 F146 tg_79
            have b_153 := g_b hG147 (a := 77) (i := 7) (lo := 0) (hi := 500) rfl rfl
            have c_154 : M151.2.1 77 6 = (M.2.1 77 6) := (F_n F146 (show ¬ (77 = 77 ∧ 7 ≤ 6 ∧ 6 ≤ 10) by decide) c_100)
            have t_155 : (M151.2.1 77 6).toInt = (M.2.1 77 6).toInt := congrArg Int32.toInt c_154
            have b_156 := g_b hG147 (a := 77) (i := 8) (lo := 0) (hi := 5) rfl rfl
            refine to_in (pc := 87) rw_170_87 rfl (b_ieq (pc := 88) rw_170_88 (A := v144.toInt) rfl (fun h157 => ?_) (fun h157 => ?_))
            · refine to_c (pc := 96) rw_170_96 (x := (1 : Int32)) rfl rfl (to_go (pc := 97) rw_170_97 (to_is (pc := 101) rw_170_101 (ls2 := [.ref 77, .int v85, .int (M70.2.1 77 9), .int v144, .int (1 : Int32), .null, .null, .null, .null]) rfl rfl (to_in (pc := 103) rw_170_103 rfl (to_c (pc := 104) rw_170_104 (x := (1 : Int32)) rfl rfl (b_cne_t (pc := 105) rw_170_105 (A := v144.toInt) (B := 1) rfl rfl (by omega) (to_in (pc := 112) rw_170_112 rfl (to_c (pc := 113) rw_170_113 (x := (2 : Int32)) rfl rfl (b_cne_t (pc := 114) rw_170_114 (A := v144.toInt) (B := 2) rfl rfl (by omega) (to_c (pc := 121) rw_170_121 (x := (0 : Int32)) rfl rfl (to_is (pc := 122) rw_170_122 (ls2 := [.ref 77, .int v85, .int (M70.2.1 77 9), .int v144, .int (1 : Int32), .int (0 : Int32), .null, .null, .null]) rfl rfl (to_an (pc := 124) rw_170_124 rfl ?_)))))))))))
              refine to_c (pc := 125) rw_170_125 (x := (0 : Int32)) rfl rfl (to_an (pc := 126) rw_170_126 rfl ?_)
              have c_158 : M151.2.1 77 14 = (M.2.1 77 14) := (F_n F146 (show ¬ (77 = 77 ∧ 7 ≤ 14 ∧ 14 ≤ 10) by decide) (F_n F92 (show ¬ (77 = 77 ∧ 7 ≤ 14 ∧ 14 ≤ 10) by decide) (F_n F77 (show ¬ (77 = 77 ∧ (14 = 4 ∨ 14 = 5)) by decide) (F_n F65 (show ¬ (77 = 77 ∧ 7 ≤ 14 ∧ 14 ≤ 10) by decide) rfl))))
              have b_159 := g_b hG (a := 77) (i := 14) (lo := 10) (hi := 60) rfl rfl
              refine tt_gI (pc := 127) rw_170_127 (g_o hG147 rfl) (v := (M.2.1 77 14)) c_158 (to_c (pc := 130) rw_170_130 (x := (1 : Int32)) rfl rfl (s_sub (pc := 131) rw_170_131 (A := (M.2.1 77 14).toInt) (B := 1) rfl rfl (by omega) (fun v160 e161 => to_i (pc := 132) rw_170_132 rfl (s_sub (pc := 134) rw_170_134 (A := v160.toInt) (B := 0) rfl rfl (by omega) (fun v162 e163 => s_v (pc := 135) rw_170_135 (dp0 hd (by decide)) (ls0 := [.ref 77, .int (0 : Int32), .int v162]) rfl (Nat.le_of_ble_eq_true rfl) (Nat.le_of_ble_eq_true rfl) rfl (to_rc rfl rfl rfl (g_o hG147 rfl)) rfl (to_an (pc := 0) rw_162_0 rfl (tt_gI (pc := 1) rw_162_1 (g_o hG147 rfl) (v := (M151.2.1 77 8)) rfl (to_c (pc := 4) rw_162_4 (x := (3 : Int32)) rfl rfl (b_ceq (pc := 5) rw_162_5 (A := (M151.2.1 77 8).toInt) (B := 3) rfl rfl (fun h164 => ?_) (fun h164 => ?_))))))))))
              · refine to_an (pc := 14) rw_162_14 rfl (tt_gI (pc := 15) rw_162_15 (g_o hG147 rfl) (v := (M151.2.1 77 9)) rfl (to_in (pc := 18) rw_162_18 rfl (b_clt (pc := 19) rw_162_19 (A := (M151.2.1 77 9).toInt) (B := 0) rfl rfl (fun h165 => ?_) (fun h165 => ?_))))
                · refine to_an (pc := 30) rw_162_30 rfl (to_c (pc := 31) rw_162_31 (x := (2 : Int32)) rfl rfl (s_v (pc := 32) rw_162_32 (dp1 hd (by decide)) (ls0 := [.ref 77, .int (2 : Int32)]) rfl (Nat.le_of_ble_eq_true rfl) (Nat.le_of_ble_eq_true rfl) rfl (to_rc rfl rfl rfl (g_o hG147 rfl)) rfl (to_an (pc := 0) rw_152_0 rfl (to_in (pc := 1) rw_152_1 rfl (s_pI (pc := 2) rw_152_2 hG147 rfl (fun M167 W166 => ?_))))))
                  have hG168 := g_wf hG147 W166 rfl rfl (by decide)
                  have F169 := FR.w F152 W166 (show 77 = 77 ∧ (4 = 4 ∨ 4 = 5 ∨ 7 ≤ 4 ∧ 4 ≤ 10 ∨ 14 ≤ 4 ∧ 4 ≤ 16 ∨ 4 = 25) ∨ 80 ≤ 77 ∧ 77 ≤ 84 ∧ 8 ≤ 4 ∨ 85 ≤ 77 ∧ 77 ≤ 87 ∧ 12 ≤ 4 by decide)
                  refine to_an (pc := 5) rw_152_5 rfl (to_an (pc := 6) rw_152_6 rfl ?_)
                  have c_170 : M167.2.1 77 10 = (M151.2.1 77 10) := (W_n W166 (by decide) rfl)
                  have b_171 := g_b hG147 (a := 77) (i := 10) (lo := 0) (hi := 500) rfl rfl
                  refine tt_gI (pc := 7) rw_152_7 (g_o hG168 rfl) (v := (M151.2.1 77 10)) c_170 (s_pI (pc := 10) rw_152_10 hG168 rfl (fun M173 W172 => ?_))
                  have hG174 := g_wf hG168 W172 rfl rfl (by decide)
                  have F175 := FR.w F169 W172 (show 77 = 77 ∧ (5 = 4 ∨ 5 = 5 ∨ 7 ≤ 5 ∧ 5 ≤ 10 ∨ 14 ≤ 5 ∧ 5 ≤ 16 ∨ 5 = 25) ∨ 80 ≤ 77 ∧ 77 ≤ 84 ∧ 8 ≤ 5 ∨ 85 ≤ 77 ∧ 77 ≤ 87 ∧ 12 ≤ 5 by decide)
                  refine to_c (pc := 13) rw_152_13 (x := (0 : Int32)) rfl rfl (s_r1 (pc := 14) rw_152_14 (A := 0) rfl (by decide) (b_ieq_t (pc := 35) rw_162_35 (A := 0) rfl (by decide) (to_c (pc := 42) rw_162_42 (x := (0 : Int32)) rfl rfl (s_r1 (pc := 43) rw_162_43 (A := 0) rfl (by decide) (b_ine_f (pc := 138) rw_170_138 (A := 0) rfl (by decide) (to_c (pc := 141) rw_170_141 (x := (0 : Int32)) rfl rfl (s_r1 (pc := 142) rw_170_142 (A := 0) rfl (by decide) ?_)))))))
                  have k_176 : (0 : Int32).toInt = 0 := rfl
                  have c_177 : M173.2.1 77 7 = (M151.2.1 77 7) := (W_n W172 (by decide) (W_n W166 (by decide) rfl))
                  have t_178 : (M173.2.1 77 7).toInt = (M151.2.1 77 7).toInt := congrArg Int32.toInt c_177
                  have c_179 : M173.2.1 77 6 = (M.2.1 77 6) := (W_n W172 (by decide) (W_n W166 (by decide) c_154))
                  have t_180 : (M173.2.1 77 6).toInt = (M.2.1 77 6).toInt := congrArg Int32.toInt c_179
                  have c_181 : M173.2.1 77 8 = (M151.2.1 77 8) := (W_n W172 (by decide) (W_n W166 (by decide) rfl))
                  have t_182 : (M173.2.1 77 8).toInt = (M151.2.1 77 8).toInt := congrArg Int32.toInt c_181
                  have j_183 := (FA_f (fun a i z => W_n W172 (tg_231 a i z) rfl) (FA_f (fun a i z => W_n W166 (tg_232 a i z) rfl) (FA_f (tg_220 F146) (FA_f (tg_220 F92) (FA_f (tg_221 F77) (FA_f (tg_220 F65) q2))))))
                  have j_184 := (WR_f (fun a i z => W_n W172 (by /-r77,5-/ omega) rfl) (WR_f (fun a i z => W_n W166 (by /-r77,4-/ omega) rfl) (WR_f (tg_222 F146) (WR_f (tg_222 F92) (WR_f (tg_223 F77) (WR_f (tg_222 F65) q3))))))
                  exact h (0 : Int32) M173 hG174 F175 (by decide) (by decide) (by omega) (by omega) (by omega) j_183 j_184
                · refine to_an (pc := 22) rw_162_22 rfl (tt_gI (pc := 23) rw_162_23 (g_o hG147 rfl) (v := (M151.2.1 77 9)) rfl (to_in (pc := 26) rw_162_26 rfl (b_cle (pc := 27) rw_162_27 (A := (M151.2.1 77 9).toInt) (B := v162.toInt) rfl rfl (fun h185 => ?_) (fun h185 => ?_))))
                  · refine to_c (pc := 38) rw_162_38 (x := (1 : Int32)) rfl rfl (to_go (pc := 39) rw_162_39 (s_r1 (pc := 43) rw_162_43 (A := 1) rfl (by decide) (b_ine_t (pc := 138) rw_170_138 (A := 1) rfl (by decide) (to_an (pc := 143) rw_170_143 rfl (tt_gI (pc := 144) rw_170_144 (g_o hG147 rfl) (v := (M151.2.1 77 9)) rfl (to_is (pc := 147) rw_170_147 (ls2 := [.ref 77, .int v85, .int (M70.2.1 77 9), .int v144, .int (1 : Int32), .int (0 : Int32), .int (M151.2.1 77 9), .null, .null]) rfl rfl (to_an (pc := 149) rw_170_149 rfl (s_gJ (pc := 150) rw_170_150 hG147 rfl (fun l186 => to_i (pc := 153) rw_170_153 rfl (to_i (pc := 155) rw_170_155 rfl (to_i (pc := 157) rw_170_157 rfl ?_)))))))))))
                    refine s_add (pc := 159) rw_170_159 (A := (M151.2.1 77 9).toInt) (B := 0) rfl rfl (by omega) (fun v187 e188 => s_s (pc := 160) rw_170_160 (dp0 hd (by decide)) (ls0 := [.int (M151.2.1 77 9), .int v187, .null, .null, .null]) rfl (Nat.le_of_ble_eq_true rfl) (Nat.le_of_ble_eq_true rfl) rfl (to_rcs rfl rfl) rfl (C_168 hX (dp1 hd (by decide)) hG147 (by omega) (by omega) (by omega) (a := (M151.2.1 77 9)) (b := v187) (fun r189 M192 hG191 F190 => ?_)))
                    have F193 := FR.c F152 F190 tg_227
                    refine s_anyL (pc := 163) rw_170_163 (fun _ _ => rfl) (fun l194 => s_cl (pc := 164) rw_170_164 rfl (fun l195 => s_lcmp (pc := 165) rw_170_165 (fun v196 => b_ieq (pc := 166) rw_170_166 (A := v196.toInt) rfl (fun h197 => ?_) (fun h197 => ?_))))
                    · refine to_an (pc := 175) rw_170_175 rfl (s_v (pc := 176) rw_170_176 (dp0 hd (by decide)) (ls0 := [.ref 77]) rfl (Nat.le_of_ble_eq_true rfl) (Nat.le_of_ble_eq_true rfl) rfl (to_rc rfl rfl rfl (g_o hG191 rfl)) rfl ?_)
                      have c_198 : M192.2.1 77 7 = (M151.2.1 77 7) := (F_n F190 (show ¬ (77 < 0) by decide) rfl)
                      have t_199 : (M192.2.1 77 7).toInt = (M151.2.1 77 7).toInt := congrArg Int32.toInt c_198
                      have c_200 : M192.2.1 77 6 = (M.2.1 77 6) := (F_n F190 (show ¬ (77 < 0) by decide) c_154)
                      have t_201 : (M192.2.1 77 6).toInt = (M.2.1 77 6).toInt := congrArg Int32.toInt c_200
                      refine C_156 hX (dp1 hd (by decide)) hG191 (by omega)  (fun M207 hG203 F202 p_204 p_205 p_206 => ?_)
                      have F208 := FR.c F193 F202 tg_79
                      have b_209 := g_b hG203 (a := 77) (i := 7) (lo := 0) (hi := 500) rfl rfl
                      have c_210 : M207.2.1 77 6 = (M.2.1 77 6) := (F_n F202 (show ¬ (77 = 77 ∧ 7 ≤ 6 ∧ 6 ≤ 10) by decide) c_200)
                      have t_211 : (M207.2.1 77 6).toInt = (M.2.1 77 6).toInt := congrArg Int32.toInt c_210
                      have b_212 := g_b hG203 (a := 77) (i := 8) (lo := 0) (hi := 5) rfl rfl
                      refine to_i (pc := 179) rw_170_179 rfl (to_i (pc := 181) rw_170_181 rfl (s_add (pc := 183) rw_170_183 (A := (M151.2.1 77 9).toInt) (B := 0) rfl rfl (by omega) (fun v213 e214 => to_is (pc := 184) rw_170_184 (ls2 := [.ref 77, .int v85, .int (M70.2.1 77 9), .int v144, .int (1 : Int32), .int (0 : Int32), .int (M151.2.1 77 9), .int v213, .null]) rfl rfl (to_c (pc := 186) rw_170_186 (x := (10 : Int32)) rfl rfl (to_is (pc := 188) rw_170_188 (ls2 := [.ref 77, .int v85, .int (M70.2.1 77 9), .int v144, .int (1 : Int32), .int (0 : Int32), .int (M151.2.1 77 9), .int v213, .int (10 : Int32)]) rfl rfl (to_i (pc := 190) rw_170_190 rfl (b_ieq_f (pc := 192) rw_170_192 (A := 1) rfl (by decide) (to_an (pc := 195) rw_170_195 rfl (to_in (pc := 196) rw_170_196 rfl (b_ine_f (pc := 197) rw_170_197 (A := v144.toInt) rfl (by omega) (to_i (pc := 200) rw_170_200 rfl ?_)))))))))))
                      refine to_c (pc := 202) rw_170_202 (x := (1 : Int32)) rfl rfl (s_add (pc := 203) rw_170_203 (A := (M151.2.1 77 9).toInt) (B := 1) rfl rfl (by omega) (fun v215 e216 => to_go (pc := 204) rw_170_204 (to_an (pc := 209) rw_170_209 rfl ?_)))
                      have c_217 : M207.2.1 77 14 = (M.2.1 77 14) := (F_n F202 (show ¬ (77 = 77 ∧ 7 ≤ 14 ∧ 14 ≤ 10) by decide) (F_n F190 (show ¬ (77 < 0) by decide) c_158))
                      refine tt_gI (pc := 210) rw_170_210 (g_o hG203 rfl) (v := (M.2.1 77 14)) c_217 (to_c (pc := 213) rw_170_213 (x := (1 : Int32)) rfl rfl (s_sub (pc := 214) rw_170_214 (A := (M.2.1 77 14).toInt) (B := 1) rfl rfl (by omega) (fun v218 e219 => s_v (pc := 215) rw_170_215 (dp0 hd (by decide)) (ls0 := [.ref 77, .int v215, .int v218]) rfl (Nat.le_of_ble_eq_true rfl) (Nat.le_of_ble_eq_true rfl) rfl (to_rc rfl rfl rfl (g_o hG203 rfl)) rfl (to_an (pc := 0) rw_162_0 rfl (tt_gI (pc := 1) rw_162_1 (g_o hG203 rfl) (v := (M207.2.1 77 8)) rfl (to_c (pc := 4) rw_162_4 (x := (3 : Int32)) rfl rfl (b_ceq (pc := 5) rw_162_5 (A := (M207.2.1 77 8).toInt) (B := 3) rfl rfl (fun h220 => ?_) (fun h220 => ?_))))))))
                      · refine to_an (pc := 14) rw_162_14 rfl (tt_gI (pc := 15) rw_162_15 (g_o hG203 rfl) (v := (M207.2.1 77 9)) rfl (to_in (pc := 18) rw_162_18 rfl (b_clt (pc := 19) rw_162_19 (A := (M207.2.1 77 9).toInt) (B := v215.toInt) rfl rfl (fun h221 => ?_) (fun h221 => ?_))))
                        · refine to_an (pc := 30) rw_162_30 rfl (to_c (pc := 31) rw_162_31 (x := (2 : Int32)) rfl rfl (s_v (pc := 32) rw_162_32 (dp1 hd (by decide)) (ls0 := [.ref 77, .int (2 : Int32)]) rfl (Nat.le_of_ble_eq_true rfl) (Nat.le_of_ble_eq_true rfl) rfl (to_rc rfl rfl rfl (g_o hG203 rfl)) rfl (to_an (pc := 0) rw_152_0 rfl (to_in (pc := 1) rw_152_1 rfl (s_pI (pc := 2) rw_152_2 hG203 rfl (fun M223 W222 => ?_))))))
                          have hG224 := g_wf hG203 W222 rfl rfl (by decide)
                          have F225 := FR.w F208 W222 (show 77 = 77 ∧ (4 = 4 ∨ 4 = 5 ∨ 7 ≤ 4 ∧ 4 ≤ 10 ∨ 14 ≤ 4 ∧ 4 ≤ 16 ∨ 4 = 25) ∨ 80 ≤ 77 ∧ 77 ≤ 84 ∧ 8 ≤ 4 ∨ 85 ≤ 77 ∧ 77 ≤ 87 ∧ 12 ≤ 4 by decide)
                          refine to_an (pc := 5) rw_152_5 rfl (to_an (pc := 6) rw_152_6 rfl ?_)
                          have c_226 : M223.2.1 77 10 = (M207.2.1 77 10) := (W_n W222 (by decide) rfl)
                          have b_227 := g_b hG203 (a := 77) (i := 10) (lo := 0) (hi := 500) rfl rfl
                          refine tt_gI (pc := 7) rw_152_7 (g_o hG224 rfl) (v := (M207.2.1 77 10)) c_226 (s_pI (pc := 10) rw_152_10 hG224 rfl (fun M229 W228 => ?_))
                          have hG230 := g_wf hG224 W228 rfl rfl (by decide)
                          have F231 := FR.w F225 W228 (show 77 = 77 ∧ (5 = 4 ∨ 5 = 5 ∨ 7 ≤ 5 ∧ 5 ≤ 10 ∨ 14 ≤ 5 ∧ 5 ≤ 16 ∨ 5 = 25) ∨ 80 ≤ 77 ∧ 77 ≤ 84 ∧ 8 ≤ 5 ∨ 85 ≤ 77 ∧ 77 ≤ 87 ∧ 12 ≤ 5 by decide)
                          refine to_c (pc := 13) rw_152_13 (x := (0 : Int32)) rfl rfl (s_r1 (pc := 14) rw_152_14 (A := 0) rfl (by decide) (b_ieq_t (pc := 35) rw_162_35 (A := 0) rfl (by decide) (to_c (pc := 42) rw_162_42 (x := (0 : Int32)) rfl rfl (s_r1 (pc := 43) rw_162_43 (A := 0) rfl (by decide) (b_ine_f (pc := 218) rw_170_218 (A := 0) rfl (by decide) (to_c (pc := 221) rw_170_221 (x := (0 : Int32)) rfl rfl (s_r1 (pc := 222) rw_170_222 (A := 0) rfl (by decide) ?_)))))))
                          have k_232 : (0 : Int32).toInt = 0 := rfl
                          have c_233 : M229.2.1 77 7 = (M207.2.1 77 7) := (W_n W228 (by decide) (W_n W222 (by decide) rfl))
                          have t_234 : (M229.2.1 77 7).toInt = (M207.2.1 77 7).toInt := congrArg Int32.toInt c_233
                          have c_235 : M229.2.1 77 6 = (M.2.1 77 6) := (W_n W228 (by decide) (W_n W222 (by decide) c_210))
                          have t_236 : (M229.2.1 77 6).toInt = (M.2.1 77 6).toInt := congrArg Int32.toInt c_235
                          have c_237 : M229.2.1 77 8 = (M207.2.1 77 8) := (W_n W228 (by decide) (W_n W222 (by decide) rfl))
                          have t_238 : (M229.2.1 77 8).toInt = (M207.2.1 77 8).toInt := congrArg Int32.toInt c_237
                          have j_239 := (FA_f (fun a i z => W_n W228 (tg_231 a i z) rfl) (FA_f (fun a i z => W_n W222 (tg_232 a i z) rfl) (FA_f (tg_220 F202) (FA_f (tg_218 F190) (FA_f (tg_220 F146) (FA_f (tg_220 F92) (FA_f (tg_221 F77) (FA_f (tg_220 F65) q2))))))))
                          have j_240 := (WR_f (fun a i z => W_n W228 (by /-r77,5-/ omega) rfl) (WR_f (fun a i z => W_n W222 (by /-r77,4-/ omega) rfl) (WR_f (tg_222 F202) (WR_f (tg_219 F190) (WR_f (tg_222 F146) (WR_f (tg_222 F92) (WR_f (tg_223 F77) (WR_f (tg_222 F65) q3))))))))
                          exact h (0 : Int32) M229 hG230 F231 (by decide) (by decide) (by omega) (by omega) (by omega) j_239 j_240
                        · refine to_an (pc := 22) rw_162_22 rfl (tt_gI (pc := 23) rw_162_23 (g_o hG203 rfl) (v := (M207.2.1 77 9)) rfl (to_in (pc := 26) rw_162_26 rfl (b_cle (pc := 27) rw_162_27 (A := (M207.2.1 77 9).toInt) (B := v218.toInt) rfl rfl (fun h241 => ?_) (fun h241 => ?_))))
                          · refine to_c (pc := 38) rw_162_38 (x := (1 : Int32)) rfl rfl (to_go (pc := 39) rw_162_39 (s_r1 (pc := 43) rw_162_43 (A := 1) rfl (by decide) (b_ine_t (pc := 218) rw_170_218 (A := 1) rfl (by decide) (to_an (pc := 223) rw_170_223 rfl (tt_gI (pc := 224) rw_170_224 (g_o hG203 rfl) (v := (M207.2.1 77 9)) rfl (to_is (pc := 227) rw_170_227 (ls2 := [.ref 77, .int v85, .int (M70.2.1 77 9), .int v144, .int (1 : Int32), .int (0 : Int32), .int (M151.2.1 77 9), .int (M207.2.1 77 9), .int (10 : Int32)]) rfl rfl (to_i (pc := 229) rw_170_229 rfl (to_i (pc := 231) rw_170_231 rfl (s_sub (pc := 233) rw_170_233 (A := (M207.2.1 77 9).toInt) (B := (M151.2.1 77 9).toInt) rfl rfl (by omega) (fun v242 e243 => to_c (pc := 234) rw_170_234 (x := (23 : Int32)) rfl rfl (b_cle (pc := 236) rw_170_236 (A := v242.toInt) (B := 23) rfl rfl (fun h244 => ?_) (fun h244 => ?_))))))))))))
                            · refine to_an (pc := 245) rw_170_245 rfl (s_gJ (pc := 246) rw_170_246 hG203 rfl (fun l245 => to_i (pc := 249) rw_170_249 rfl (to_i (pc := 251) rw_170_251 rfl (s_s (pc := 253) rw_170_253 (dp0 hd (by decide)) (ls0 := [.int (M151.2.1 77 9), .int (M207.2.1 77 9), .null, .null, .null]) rfl (Nat.le_of_ble_eq_true rfl) (Nat.le_of_ble_eq_true rfl) rfl (to_rcs rfl rfl) rfl (C_168 hX (dp1 hd (by decide)) hG203 (by omega) (by omega) (by omega) (a := (M151.2.1 77 9)) (b := (M207.2.1 77 9)) (fun r246 M249 hG248 F247 => ?_))))))
                              have F250 := FR.c F208 F247 tg_227
                              refine s_anyL (pc := 256) rw_170_256 (fun _ _ => rfl) (fun l251 => s_cl (pc := 257) rw_170_257 rfl (fun l252 => s_lcmp (pc := 258) rw_170_258 (fun v253 => b_ieq (pc := 259) rw_170_259 (A := v253.toInt) rfl (fun h254 => ?_) (fun h254 => ?_))))
                              · refine to_an (pc := 268) rw_170_268 rfl (s_v (pc := 269) rw_170_269 (dp0 hd (by decide)) (ls0 := [.ref 77]) rfl (Nat.le_of_ble_eq_true rfl) (Nat.le_of_ble_eq_true rfl) rfl (to_rc rfl rfl rfl (g_o hG248 rfl)) rfl ?_)
                                have c_255 : M249.2.1 77 7 = (M207.2.1 77 7) := (F_n F247 (show ¬ (77 < 0) by decide) rfl)
                                have t_256 : (M249.2.1 77 7).toInt = (M207.2.1 77 7).toInt := congrArg Int32.toInt c_255
                                have c_257 : M249.2.1 77 6 = (M.2.1 77 6) := (F_n F247 (show ¬ (77 < 0) by decide) c_210)
                                have t_258 : (M249.2.1 77 6).toInt = (M.2.1 77 6).toInt := congrArg Int32.toInt c_257
                                refine C_156 hX (dp1 hd (by decide)) hG248 (by omega)  (fun M264 hG260 F259 p_261 p_262 p_263 => ?_)
                                have F265 := FR.c F250 F259 tg_79
                                have b_266 := g_b hG260 (a := 77) (i := 7) (lo := 0) (hi := 500) rfl rfl
                                have c_267 : M264.2.1 77 6 = (M.2.1 77 6) := (F_n F259 (show ¬ (77 = 77 ∧ 7 ≤ 6 ∧ 6 ≤ 10) by decide) c_257)
                                have t_268 : (M264.2.1 77 6).toInt = (M.2.1 77 6).toInt := congrArg Int32.toInt c_267
                                have b_269 := g_b hG260 (a := 77) (i := 8) (lo := 0) (hi := 5) rfl rfl
                                refine to_i (pc := 272) rw_170_272 rfl (to_i (pc := 274) rw_170_274 rfl (s_sub (pc := 276) rw_170_276 (A := (M207.2.1 77 9).toInt) (B := (M151.2.1 77 9).toInt) rfl rfl (by omega) (fun v270 e271 => to_c (pc := 277) rw_170_277 (x := (1 : Int32)) rfl rfl (s_add (pc := 278) rw_170_278 (A := v270.toInt) (B := 1) rfl rfl (by omega) (fun v272 e273 => to_is (pc := 279) rw_170_279 (ls2 := [.ref 77, .int v85, .int (M70.2.1 77 9), .int v144, .int (1 : Int32), .int (0 : Int32), .int (M151.2.1 77 9), .int (M207.2.1 77 9), .int v272]) rfl rfl (to_in (pc := 281) rw_170_281 rfl (to_c (pc := 282) rw_170_282 (x := (3 : Int32)) rfl rfl (b_cne_t (pc := 283) rw_170_283 (A := v144.toInt) (B := 3) rfl rfl (by omega) ?_))))))))
                                have c_274 : M264.2.1 77 15 = (M.2.1 77 15) := (F_n F259 (show ¬ (77 = 77 ∧ 7 ≤ 15 ∧ 15 ≤ 10) by decide) (F_n F247 (show ¬ (77 < 0) by decide) (F_n F202 (show ¬ (77 = 77 ∧ 7 ≤ 15 ∧ 15 ≤ 10) by decide) (F_n F190 (show ¬ (77 < 0) by decide) (F_n F146 (show ¬ (77 = 77 ∧ 7 ≤ 15 ∧ 15 ≤ 10) by decide) (F_n F92 (show ¬ (77 = 77 ∧ 7 ≤ 15 ∧ 15 ≤ 10) by decide) c_84))))))
                                have t_275 : (M264.2.1 77 15).toInt = (M.2.1 77 15).toInt := congrArg Int32.toInt c_274
                                have j_276 := (FA_f (tg_220 F259) (FA_f (tg_218 F247) (FA_f (tg_220 F202) (FA_f (tg_218 F190) (FA_f (tg_220 F146) (FA_f (tg_220 F92) (FA_f (tg_221 F77) (FA_f (tg_220 F65) q2))))))))
                                have j_277 := (WR_f (tg_222 F259) (WR_f (tg_219 F247) (WR_f (tg_222 F202) (WR_f (tg_219 F190) (WR_f (tg_222 F146) (WR_f (tg_222 F92) (WR_f (tg_223 F77) (WR_f (tg_222 F65) q3))))))))
                                exact (T_170_0 hX hd q1 q2 q3 h (((0 : Int)).toNat + 1)) M264 v85 (M70.2.1 77 9) v144 (.int (1 : Int32)) (.int (0 : Int32)) (M151.2.1 77 9) (M207.2.1 77 9) v272 hG260 F265 (by omega) (by omega) (by omega) (by omega) (by omega) (by omega) (by omega) (by omega) (by omega) (by omega) (by omega) (by omega) (by omega) (by omega) (by omega) j_276 j_277 (by omega)
                              · refine to_an (pc := 262) rw_170_262 rfl (to_c (pc := 263) rw_170_263 (x := (3 : Int32)) rfl rfl (s_v (pc := 264) rw_170_264 (dp0 hd (by decide)) (ls0 := [.ref 77, .int (3 : Int32)]) rfl (Nat.le_of_ble_eq_true rfl) (Nat.le_of_ble_eq_true rfl) rfl (to_rc rfl rfl rfl (g_o hG248 rfl)) rfl (to_an (pc := 0) rw_152_0 rfl (to_in (pc := 1) rw_152_1 rfl (s_pI (pc := 2) rw_152_2 hG248 rfl (fun M279 W278 => ?_))))))
                                have hG280 := g_wf hG248 W278 rfl rfl (by decide)
                                have F281 := FR.w F250 W278 (show 77 = 77 ∧ (4 = 4 ∨ 4 = 5 ∨ 7 ≤ 4 ∧ 4 ≤ 10 ∨ 14 ≤ 4 ∧ 4 ≤ 16 ∨ 4 = 25) ∨ 80 ≤ 77 ∧ 77 ≤ 84 ∧ 8 ≤ 4 ∨ 85 ≤ 77 ∧ 77 ≤ 87 ∧ 12 ≤ 4 by decide)
                                refine to_an (pc := 5) rw_152_5 rfl (to_an (pc := 6) rw_152_6 rfl ?_)
                                have c_282 : M279.2.1 77 10 = (M207.2.1 77 10) := (W_n W278 (by decide) (F_n F247 (show ¬ (77 < 0) by decide) rfl))
                                have b_283 := g_b hG203 (a := 77) (i := 10) (lo := 0) (hi := 500) rfl rfl
                                refine tt_gI (pc := 7) rw_152_7 (g_o hG280 rfl) (v := (M207.2.1 77 10)) c_282 (s_pI (pc := 10) rw_152_10 hG280 rfl (fun M285 W284 => ?_))
                                have hG286 := g_wf hG280 W284 rfl rfl (by decide)
                                have F287 := FR.w F281 W284 (show 77 = 77 ∧ (5 = 4 ∨ 5 = 5 ∨ 7 ≤ 5 ∧ 5 ≤ 10 ∨ 14 ≤ 5 ∧ 5 ≤ 16 ∨ 5 = 25) ∨ 80 ≤ 77 ∧ 77 ≤ 84 ∧ 8 ≤ 5 ∨ 85 ≤ 77 ∧ 77 ≤ 87 ∧ 12 ≤ 5 by decide)
                                refine to_c (pc := 13) rw_152_13 (x := (0 : Int32)) rfl rfl (s_r1 (pc := 14) rw_152_14 (A := 0) rfl (by decide) (s_r1 (pc := 267) rw_170_267 (A := 0) rfl (by decide) ?_))
                                have k_288 : (0 : Int32).toInt = 0 := rfl
                                have c_289 : M285.2.1 77 7 = (M207.2.1 77 7) := (W_n W284 (by decide) (W_n W278 (by decide) (F_n F247 (show ¬ (77 < 0) by decide) rfl)))
                                have t_290 : (M285.2.1 77 7).toInt = (M207.2.1 77 7).toInt := congrArg Int32.toInt c_289
                                have c_291 : M285.2.1 77 6 = (M.2.1 77 6) := (W_n W284 (by decide) (W_n W278 (by decide) (F_n F247 (show ¬ (77 < 0) by decide) c_210)))
                                have t_292 : (M285.2.1 77 6).toInt = (M.2.1 77 6).toInt := congrArg Int32.toInt c_291
                                have c_293 : M285.2.1 77 8 = (M207.2.1 77 8) := (W_n W284 (by decide) (W_n W278 (by decide) (F_n F247 (show ¬ (77 < 0) by decide) rfl)))
                                have t_294 : (M285.2.1 77 8).toInt = (M207.2.1 77 8).toInt := congrArg Int32.toInt c_293
                                have j_295 := (FA_f (fun a i z => W_n W284 (tg_231 a i z) rfl) (FA_f (fun a i z => W_n W278 (tg_232 a i z) rfl) (FA_f (tg_218 F247) (FA_f (tg_220 F202) (FA_f (tg_218 F190) (FA_f (tg_220 F146) (FA_f (tg_220 F92) (FA_f (tg_221 F77) (FA_f (tg_220 F65) q2)))))))))
                                have j_296 := (WR_f (fun a i z => W_n W284 (by /-r77,5-/ omega) rfl) (WR_f (fun a i z => W_n W278 (by /-r77,4-/ omega) rfl) (WR_f (tg_219 F247) (WR_f (tg_222 F202) (WR_f (tg_219 F190) (WR_f (tg_222 F146) (WR_f (tg_222 F92) (WR_f (tg_223 F77) (WR_f (tg_222 F65) q3)))))))))
                                exact h (0 : Int32) M285 hG286 F287 (by decide) (by decide) (by omega) (by omega) (by omega) j_295 j_296
                            · refine to_an (pc := 239) rw_170_239 rfl (to_c (pc := 240) rw_170_240 (x := (2 : Int32)) rfl rfl (s_v (pc := 241) rw_170_241 (dp0 hd (by decide)) (ls0 := [.ref 77, .int (2 : Int32)]) rfl (Nat.le_of_ble_eq_true rfl) (Nat.le_of_ble_eq_true rfl) rfl (to_rc rfl rfl rfl (g_o hG203 rfl)) rfl (to_an (pc := 0) rw_152_0 rfl (to_in (pc := 1) rw_152_1 rfl (s_pI (pc := 2) rw_152_2 hG203 rfl (fun M298 W297 => ?_))))))
                              have hG299 := g_wf hG203 W297 rfl rfl (by decide)
                              have F300 := FR.w F208 W297 (show 77 = 77 ∧ (4 = 4 ∨ 4 = 5 ∨ 7 ≤ 4 ∧ 4 ≤ 10 ∨ 14 ≤ 4 ∧ 4 ≤ 16 ∨ 4 = 25) ∨ 80 ≤ 77 ∧ 77 ≤ 84 ∧ 8 ≤ 4 ∨ 85 ≤ 77 ∧ 77 ≤ 87 ∧ 12 ≤ 4 by decide)
                              refine to_an (pc := 5) rw_152_5 rfl (to_an (pc := 6) rw_152_6 rfl ?_)
                              have c_301 : M298.2.1 77 10 = (M207.2.1 77 10) := (W_n W297 (by decide) rfl)
                              have b_302 := g_b hG203 (a := 77) (i := 10) (lo := 0) (hi := 500) rfl rfl
                              refine tt_gI (pc := 7) rw_152_7 (g_o hG299 rfl) (v := (M207.2.1 77 10)) c_301 (s_pI (pc := 10) rw_152_10 hG299 rfl (fun M304 W303 => ?_))
                              have hG305 := g_wf hG299 W303 rfl rfl (by decide)
                              have F306 := FR.w F300 W303 (show 77 = 77 ∧ (5 = 4 ∨ 5 = 5 ∨ 7 ≤ 5 ∧ 5 ≤ 10 ∨ 14 ≤ 5 ∧ 5 ≤ 16 ∨ 5 = 25) ∨ 80 ≤ 77 ∧ 77 ≤ 84 ∧ 8 ≤ 5 ∨ 85 ≤ 77 ∧ 77 ≤ 87 ∧ 12 ≤ 5 by decide)
                              refine to_c (pc := 13) rw_152_13 (x := (0 : Int32)) rfl rfl (s_r1 (pc := 14) rw_152_14 (A := 0) rfl (by decide) (s_r1 (pc := 244) rw_170_244 (A := 0) rfl (by decide) ?_))
                              have k_307 : (0 : Int32).toInt = 0 := rfl
                              have c_308 : M304.2.1 77 7 = (M207.2.1 77 7) := (W_n W303 (by decide) (W_n W297 (by decide) rfl))
                              have t_309 : (M304.2.1 77 7).toInt = (M207.2.1 77 7).toInt := congrArg Int32.toInt c_308
                              have c_310 : M304.2.1 77 6 = (M.2.1 77 6) := (W_n W303 (by decide) (W_n W297 (by decide) c_210))
                              have t_311 : (M304.2.1 77 6).toInt = (M.2.1 77 6).toInt := congrArg Int32.toInt c_310
                              have c_312 : M304.2.1 77 8 = (M207.2.1 77 8) := (W_n W303 (by decide) (W_n W297 (by decide) rfl))
                              have t_313 : (M304.2.1 77 8).toInt = (M207.2.1 77 8).toInt := congrArg Int32.toInt c_312
                              have j_314 := (FA_f (fun a i z => W_n W303 (tg_231 a i z) rfl) (FA_f (fun a i z => W_n W297 (tg_232 a i z) rfl) (FA_f (tg_220 F202) (FA_f (tg_218 F190) (FA_f (tg_220 F146) (FA_f (tg_220 F92) (FA_f (tg_221 F77) (FA_f (tg_220 F65) q2))))))))
                              have j_315 := (WR_f (fun a i z => W_n W303 (by /-r77,5-/ omega) rfl) (WR_f (fun a i z => W_n W297 (by /-r77,4-/ omega) rfl) (WR_f (tg_222 F202) (WR_f (tg_219 F190) (WR_f (tg_222 F146) (WR_f (tg_222 F92) (WR_f (tg_223 F77) (WR_f (tg_222 F65) q3))))))))
                              exact h (0 : Int32) M304 hG305 F306 (by decide) (by decide) (by omega) (by omega) (by omega) j_314 j_315
                          · refine to_an (pc := 30) rw_162_30 rfl (to_c (pc := 31) rw_162_31 (x := (2 : Int32)) rfl rfl (s_v (pc := 32) rw_162_32 (dp1 hd (by decide)) (ls0 := [.ref 77, .int (2 : Int32)]) rfl (Nat.le_of_ble_eq_true rfl) (Nat.le_of_ble_eq_true rfl) rfl (to_rc rfl rfl rfl (g_o hG203 rfl)) rfl (to_an (pc := 0) rw_152_0 rfl (to_in (pc := 1) rw_152_1 rfl (s_pI (pc := 2) rw_152_2 hG203 rfl (fun M317 W316 => ?_))))))
                            have hG318 := g_wf hG203 W316 rfl rfl (by decide)
                            have F319 := FR.w F208 W316 (show 77 = 77 ∧ (4 = 4 ∨ 4 = 5 ∨ 7 ≤ 4 ∧ 4 ≤ 10 ∨ 14 ≤ 4 ∧ 4 ≤ 16 ∨ 4 = 25) ∨ 80 ≤ 77 ∧ 77 ≤ 84 ∧ 8 ≤ 4 ∨ 85 ≤ 77 ∧ 77 ≤ 87 ∧ 12 ≤ 4 by decide)
                            refine to_an (pc := 5) rw_152_5 rfl (to_an (pc := 6) rw_152_6 rfl ?_)
                            have c_320 : M317.2.1 77 10 = (M207.2.1 77 10) := (W_n W316 (by decide) rfl)
                            have b_321 := g_b hG203 (a := 77) (i := 10) (lo := 0) (hi := 500) rfl rfl
                            refine tt_gI (pc := 7) rw_152_7 (g_o hG318 rfl) (v := (M207.2.1 77 10)) c_320 (s_pI (pc := 10) rw_152_10 hG318 rfl (fun M323 W322 => ?_))
                            have hG324 := g_wf hG318 W322 rfl rfl (by decide)
                            have F325 := FR.w F319 W322 (show 77 = 77 ∧ (5 = 4 ∨ 5 = 5 ∨ 7 ≤ 5 ∧ 5 ≤ 10 ∨ 14 ≤ 5 ∧ 5 ≤ 16 ∨ 5 = 25) ∨ 80 ≤ 77 ∧ 77 ≤ 84 ∧ 8 ≤ 5 ∨ 85 ≤ 77 ∧ 77 ≤ 87 ∧ 12 ≤ 5 by decide)
                            refine to_c (pc := 13) rw_152_13 (x := (0 : Int32)) rfl rfl (s_r1 (pc := 14) rw_152_14 (A := 0) rfl (by decide) (b_ieq_t (pc := 35) rw_162_35 (A := 0) rfl (by decide) (to_c (pc := 42) rw_162_42 (x := (0 : Int32)) rfl rfl (s_r1 (pc := 43) rw_162_43 (A := 0) rfl (by decide) (b_ine_f (pc := 218) rw_170_218 (A := 0) rfl (by decide) (to_c (pc := 221) rw_170_221 (x := (0 : Int32)) rfl rfl (s_r1 (pc := 222) rw_170_222 (A := 0) rfl (by decide) ?_)))))))
                            have k_326 : (0 : Int32).toInt = 0 := rfl
                            have c_327 : M323.2.1 77 7 = (M207.2.1 77 7) := (W_n W322 (by decide) (W_n W316 (by decide) rfl))
                            have t_328 : (M323.2.1 77 7).toInt = (M207.2.1 77 7).toInt := congrArg Int32.toInt c_327
                            have c_329 : M323.2.1 77 6 = (M.2.1 77 6) := (W_n W322 (by decide) (W_n W316 (by decide) c_210))
                            have t_330 : (M323.2.1 77 6).toInt = (M.2.1 77 6).toInt := congrArg Int32.toInt c_329
                            have c_331 : M323.2.1 77 8 = (M207.2.1 77 8) := (W_n W322 (by decide) (W_n W316 (by decide) rfl))
                            have t_332 : (M323.2.1 77 8).toInt = (M207.2.1 77 8).toInt := congrArg Int32.toInt c_331
                            have j_333 := (FA_f (fun a i z => W_n W322 (tg_231 a i z) rfl) (FA_f (fun a i z => W_n W316 (tg_232 a i z) rfl) (FA_f (tg_220 F202) (FA_f (tg_218 F190) (FA_f (tg_220 F146) (FA_f (tg_220 F92) (FA_f (tg_221 F77) (FA_f (tg_220 F65) q2))))))))
                            have j_334 := (WR_f (fun a i z => W_n W322 (by /-r77,5-/ omega) rfl) (WR_f (fun a i z => W_n W316 (by /-r77,4-/ omega) rfl) (WR_f (tg_222 F202) (WR_f (tg_219 F190) (WR_f (tg_222 F146) (WR_f (tg_222 F92) (WR_f (tg_223 F77) (WR_f (tg_222 F65) q3))))))))
                            exact h (0 : Int32) M323 hG324 F325 (by decide) (by decide) (by omega) (by omega) (by omega) j_333 j_334
                      · refine to_an (pc := 8) rw_162_8 rfl (to_c (pc := 9) rw_162_9 (x := (1 : Int32)) rfl rfl (s_v (pc := 10) rw_162_10 (dp1 hd (by decide)) (ls0 := [.ref 77, .int (1 : Int32)]) rfl (Nat.le_of_ble_eq_true rfl) (Nat.le_of_ble_eq_true rfl) rfl (to_rc rfl rfl rfl (g_o hG203 rfl)) rfl (to_an (pc := 0) rw_152_0 rfl (to_in (pc := 1) rw_152_1 rfl (s_pI (pc := 2) rw_152_2 hG203 rfl (fun M336 W335 => ?_))))))
                        have hG337 := g_wf hG203 W335 rfl rfl (by decide)
                        have F338 := FR.w F208 W335 (show 77 = 77 ∧ (4 = 4 ∨ 4 = 5 ∨ 7 ≤ 4 ∧ 4 ≤ 10 ∨ 14 ≤ 4 ∧ 4 ≤ 16 ∨ 4 = 25) ∨ 80 ≤ 77 ∧ 77 ≤ 84 ∧ 8 ≤ 4 ∨ 85 ≤ 77 ∧ 77 ≤ 87 ∧ 12 ≤ 4 by decide)
                        refine to_an (pc := 5) rw_152_5 rfl (to_an (pc := 6) rw_152_6 rfl ?_)
                        have c_339 : M336.2.1 77 10 = (M207.2.1 77 10) := (W_n W335 (by decide) rfl)
                        have b_340 := g_b hG203 (a := 77) (i := 10) (lo := 0) (hi := 500) rfl rfl
                        refine tt_gI (pc := 7) rw_152_7 (g_o hG337 rfl) (v := (M207.2.1 77 10)) c_339 (s_pI (pc := 10) rw_152_10 hG337 rfl (fun M342 W341 => ?_))
                        have hG343 := g_wf hG337 W341 rfl rfl (by decide)
                        have F344 := FR.w F338 W341 (show 77 = 77 ∧ (5 = 4 ∨ 5 = 5 ∨ 7 ≤ 5 ∧ 5 ≤ 10 ∨ 14 ≤ 5 ∧ 5 ≤ 16 ∨ 5 = 25) ∨ 80 ≤ 77 ∧ 77 ≤ 84 ∧ 8 ≤ 5 ∨ 85 ≤ 77 ∧ 77 ≤ 87 ∧ 12 ≤ 5 by decide)
                        refine to_c (pc := 13) rw_152_13 (x := (0 : Int32)) rfl rfl (s_r1 (pc := 14) rw_152_14 (A := 0) rfl (by decide) (s_r1 (pc := 13) rw_162_13 (A := 0) rfl (by decide) (b_ine_f (pc := 218) rw_170_218 (A := 0) rfl (by decide) (to_c (pc := 221) rw_170_221 (x := (0 : Int32)) rfl rfl (s_r1 (pc := 222) rw_170_222 (A := 0) rfl (by decide) ?_)))))
                        have k_345 : (0 : Int32).toInt = 0 := rfl
                        have c_346 : M342.2.1 77 7 = (M207.2.1 77 7) := (W_n W341 (by decide) (W_n W335 (by decide) rfl))
                        have t_347 : (M342.2.1 77 7).toInt = (M207.2.1 77 7).toInt := congrArg Int32.toInt c_346
                        have c_348 : M342.2.1 77 6 = (M.2.1 77 6) := (W_n W341 (by decide) (W_n W335 (by decide) c_210))
                        have t_349 : (M342.2.1 77 6).toInt = (M.2.1 77 6).toInt := congrArg Int32.toInt c_348
                        have c_350 : M342.2.1 77 8 = (M207.2.1 77 8) := (W_n W341 (by decide) (W_n W335 (by decide) rfl))
                        have t_351 : (M342.2.1 77 8).toInt = (M207.2.1 77 8).toInt := congrArg Int32.toInt c_350
                        have j_352 := (FA_f (fun a i z => W_n W341 (tg_231 a i z) rfl) (FA_f (fun a i z => W_n W335 (tg_232 a i z) rfl) (FA_f (tg_220 F202) (FA_f (tg_218 F190) (FA_f (tg_220 F146) (FA_f (tg_220 F92) (FA_f (tg_221 F77) (FA_f (tg_220 F65) q2))))))))
                        have j_353 := (WR_f (fun a i z => W_n W341 (by /-r77,5-/ omega) rfl) (WR_f (fun a i z => W_n W335 (by /-r77,4-/ omega) rfl) (WR_f (tg_222 F202) (WR_f (tg_219 F190) (WR_f (tg_222 F146) (WR_f (tg_222 F92) (WR_f (tg_223 F77) (WR_f (tg_222 F65) q3))))))))
                        exact h (0 : Int32) M342 hG343 F344 (by decide) (by decide) (by omega) (by omega) (by omega) j_352 j_353
                    · refine to_an (pc := 169) rw_170_169 rfl (to_c (pc := 170) rw_170_170 (x := (3 : Int32)) rfl rfl (s_v (pc := 171) rw_170_171 (dp0 hd (by decide)) (ls0 := [.ref 77, .int (3 : Int32)]) rfl (Nat.le_of_ble_eq_true rfl) (Nat.le_of_ble_eq_true rfl) rfl (to_rc rfl rfl rfl (g_o hG191 rfl)) rfl (to_an (pc := 0) rw_152_0 rfl (to_in (pc := 1) rw_152_1 rfl (s_pI (pc := 2) rw_152_2 hG191 rfl (fun M355 W354 => ?_))))))
                      have hG356 := g_wf hG191 W354 rfl rfl (by decide)
                      have F357 := FR.w F193 W354 (show 77 = 77 ∧ (4 = 4 ∨ 4 = 5 ∨ 7 ≤ 4 ∧ 4 ≤ 10 ∨ 14 ≤ 4 ∧ 4 ≤ 16 ∨ 4 = 25) ∨ 80 ≤ 77 ∧ 77 ≤ 84 ∧ 8 ≤ 4 ∨ 85 ≤ 77 ∧ 77 ≤ 87 ∧ 12 ≤ 4 by decide)
                      refine to_an (pc := 5) rw_152_5 rfl (to_an (pc := 6) rw_152_6 rfl ?_)
                      have c_358 : M355.2.1 77 10 = (M151.2.1 77 10) := (W_n W354 (by decide) (F_n F190 (show ¬ (77 < 0) by decide) rfl))
                      have b_359 := g_b hG147 (a := 77) (i := 10) (lo := 0) (hi := 500) rfl rfl
                      refine tt_gI (pc := 7) rw_152_7 (g_o hG356 rfl) (v := (M151.2.1 77 10)) c_358 (s_pI (pc := 10) rw_152_10 hG356 rfl (fun M361 W360 => ?_))
                      have hG362 := g_wf hG356 W360 rfl rfl (by decide)
                      have F363 := FR.w F357 W360 (show 77 = 77 ∧ (5 = 4 ∨ 5 = 5 ∨ 7 ≤ 5 ∧ 5 ≤ 10 ∨ 14 ≤ 5 ∧ 5 ≤ 16 ∨ 5 = 25) ∨ 80 ≤ 77 ∧ 77 ≤ 84 ∧ 8 ≤ 5 ∨ 85 ≤ 77 ∧ 77 ≤ 87 ∧ 12 ≤ 5 by decide)
                      refine to_c (pc := 13) rw_152_13 (x := (0 : Int32)) rfl rfl (s_r1 (pc := 14) rw_152_14 (A := 0) rfl (by decide) (s_r1 (pc := 174) rw_170_174 (A := 0) rfl (by decide) ?_))
                      have k_364 : (0 : Int32).toInt = 0 := rfl
                      have c_365 : M361.2.1 77 7 = (M151.2.1 77 7) := (W_n W360 (by decide) (W_n W354 (by decide) (F_n F190 (show ¬ (77 < 0) by decide) rfl)))
                      have t_366 : (M361.2.1 77 7).toInt = (M151.2.1 77 7).toInt := congrArg Int32.toInt c_365
                      have c_367 : M361.2.1 77 6 = (M.2.1 77 6) := (W_n W360 (by decide) (W_n W354 (by decide) (F_n F190 (show ¬ (77 < 0) by decide) c_154)))
                      have t_368 : (M361.2.1 77 6).toInt = (M.2.1 77 6).toInt := congrArg Int32.toInt c_367
                      have c_369 : M361.2.1 77 8 = (M151.2.1 77 8) := (W_n W360 (by decide) (W_n W354 (by decide) (F_n F190 (show ¬ (77 < 0) by decide) rfl)))
                      have t_370 : (M361.2.1 77 8).toInt = (M151.2.1 77 8).toInt := congrArg Int32.toInt c_369
                      have j_371 := (FA_f (fun a i z => W_n W360 (tg_231 a i z) rfl) (FA_f (fun a i z => W_n W354 (tg_232 a i z) rfl) (FA_f (tg_218 F190) (FA_f (tg_220 F146) (FA_f (tg_220 F92) (FA_f (tg_221 F77) (FA_f (tg_220 F65) q2)))))))
                      have j_372 := (WR_f (fun a i z => W_n W360 (by /-r77,5-/ omega) rfl) (WR_f (fun a i z => W_n W354 (by /-r77,4-/ omega) rfl) (WR_f (tg_219 F190) (WR_f (tg_222 F146) (WR_f (tg_222 F92) (WR_f (tg_223 F77) (WR_f (tg_222 F65) q3)))))))
                      exact h (0 : Int32) M361 hG362 F363 (by decide) (by decide) (by omega) (by omega) (by omega) j_371 j_372
                  · refine to_an (pc := 30) rw_162_30 rfl (to_c (pc := 31) rw_162_31 (x := (2 : Int32)) rfl rfl (s_v (pc := 32) rw_162_32 (dp1 hd (by decide)) (ls0 := [.ref 77, .int (2 : Int32)]) rfl (Nat.le_of_ble_eq_true rfl) (Nat.le_of_ble_eq_true rfl) rfl (to_rc rfl rfl rfl (g_o hG147 rfl)) rfl (to_an (pc := 0) rw_152_0 rfl (to_in (pc := 1) rw_152_1 rfl (s_pI (pc := 2) rw_152_2 hG147 rfl (fun M374 W373 => ?_))))))
                    have hG375 := g_wf hG147 W373 rfl rfl (by decide)
                    have F376 := FR.w F152 W373 (show 77 = 77 ∧ (4 = 4 ∨ 4 = 5 ∨ 7 ≤ 4 ∧ 4 ≤ 10 ∨ 14 ≤ 4 ∧ 4 ≤ 16 ∨ 4 = 25) ∨ 80 ≤ 77 ∧ 77 ≤ 84 ∧ 8 ≤ 4 ∨ 85 ≤ 77 ∧ 77 ≤ 87 ∧ 12 ≤ 4 by decide)
                    refine to_an (pc := 5) rw_152_5 rfl (to_an (pc := 6) rw_152_6 rfl ?_)
                    have c_377 : M374.2.1 77 10 = (M151.2.1 77 10) := (W_n W373 (by decide) rfl)
                    have b_378 := g_b hG147 (a := 77) (i := 10) (lo := 0) (hi := 500) rfl rfl
                    refine tt_gI (pc := 7) rw_152_7 (g_o hG375 rfl) (v := (M151.2.1 77 10)) c_377 (s_pI (pc := 10) rw_152_10 hG375 rfl (fun M380 W379 => ?_))
                    have hG381 := g_wf hG375 W379 rfl rfl (by decide)
                    have F382 := FR.w F376 W379 (show 77 = 77 ∧ (5 = 4 ∨ 5 = 5 ∨ 7 ≤ 5 ∧ 5 ≤ 10 ∨ 14 ≤ 5 ∧ 5 ≤ 16 ∨ 5 = 25) ∨ 80 ≤ 77 ∧ 77 ≤ 84 ∧ 8 ≤ 5 ∨ 85 ≤ 77 ∧ 77 ≤ 87 ∧ 12 ≤ 5 by decide)
                    refine to_c (pc := 13) rw_152_13 (x := (0 : Int32)) rfl rfl (s_r1 (pc := 14) rw_152_14 (A := 0) rfl (by decide) (b_ieq_t (pc := 35) rw_162_35 (A := 0) rfl (by decide) (to_c (pc := 42) rw_162_42 (x := (0 : Int32)) rfl rfl (s_r1 (pc := 43) rw_162_43 (A := 0) rfl (by decide) (b_ine_f (pc := 138) rw_170_138 (A := 0) rfl (by decide) (to_c (pc := 141) rw_170_141 (x := (0 : Int32)) rfl rfl (s_r1 (pc := 142) rw_170_142 (A := 0) rfl (by decide) ?_)))))))
                    have k_383 : (0 : Int32).toInt = 0 := rfl
                    have c_384 : M380.2.1 77 7 = (M151.2.1 77 7) := (W_n W379 (by decide) (W_n W373 (by decide) rfl))
                    have t_385 : (M380.2.1 77 7).toInt = (M151.2.1 77 7).toInt := congrArg Int32.toInt c_384
                    have c_386 : M380.2.1 77 6 = (M.2.1 77 6) := (W_n W379 (by decide) (W_n W373 (by decide) c_154))
                    have t_387 : (M380.2.1 77 6).toInt = (M.2.1 77 6).toInt := congrArg Int32.toInt c_386
                    have c_388 : M380.2.1 77 8 = (M151.2.1 77 8) := (W_n W379 (by decide) (W_n W373 (by decide) rfl))
                    have t_389 : (M380.2.1 77 8).toInt = (M151.2.1 77 8).toInt := congrArg Int32.toInt c_388
                    have j_390 := (FA_f (fun a i z => W_n W379 (tg_231 a i z) rfl) (FA_f (fun a i z => W_n W373 (tg_232 a i z) rfl) (FA_f (tg_220 F146) (FA_f (tg_220 F92) (FA_f (tg_221 F77) (FA_f (tg_220 F65) q2))))))
                    have j_391 := (WR_f (fun a i z => W_n W379 (by /-r77,5-/ omega) rfl) (WR_f (fun a i z => W_n W373 (by /-r77,4-/ omega) rfl) (WR_f (tg_222 F146) (WR_f (tg_222 F92) (WR_f (tg_223 F77) (WR_f (tg_222 F65) q3))))))
                    exact h (0 : Int32) M380 hG381 F382 (by decide) (by decide) (by omega) (by omega) (by omega) j_390 j_391
              · refine to_an (pc := 8) rw_162_8 rfl (to_c (pc := 9) rw_162_9 (x := (1 : Int32)) rfl rfl (s_v (pc := 10) rw_162_10 (dp1 hd (by decide)) (ls0 := [.ref 77, .int (1 : Int32)]) rfl (Nat.le_of_ble_eq_true rfl) (Nat.le_of_ble_eq_true rfl) rfl (to_rc rfl rfl rfl (g_o hG147 rfl)) rfl (to_an (pc := 0) rw_152_0 rfl (to_in (pc := 1) rw_152_1 rfl (s_pI (pc := 2) rw_152_2 hG147 rfl (fun M393 W392 => ?_))))))
                have hG394 := g_wf hG147 W392 rfl rfl (by decide)
                have F395 := FR.w F152 W392 (show 77 = 77 ∧ (4 = 4 ∨ 4 = 5 ∨ 7 ≤ 4 ∧ 4 ≤ 10 ∨ 14 ≤ 4 ∧ 4 ≤ 16 ∨ 4 = 25) ∨ 80 ≤ 77 ∧ 77 ≤ 84 ∧ 8 ≤ 4 ∨ 85 ≤ 77 ∧ 77 ≤ 87 ∧ 12 ≤ 4 by decide)
                refine to_an (pc := 5) rw_152_5 rfl (to_an (pc := 6) rw_152_6 rfl ?_)
                have c_396 : M393.2.1 77 10 = (M151.2.1 77 10) := (W_n W392 (by decide) rfl)
                have b_397 := g_b hG147 (a := 77) (i := 10) (lo := 0) (hi := 500) rfl rfl
                refine tt_gI (pc := 7) rw_152_7 (g_o hG394 rfl) (v := (M151.2.1 77 10)) c_396 (s_pI (pc := 10) rw_152_10 hG394 rfl (fun M399 W398 => ?_))
                have hG400 := g_wf hG394 W398 rfl rfl (by decide)
                have F401 := FR.w F395 W398 (show 77 = 77 ∧ (5 = 4 ∨ 5 = 5 ∨ 7 ≤ 5 ∧ 5 ≤ 10 ∨ 14 ≤ 5 ∧ 5 ≤ 16 ∨ 5 = 25) ∨ 80 ≤ 77 ∧ 77 ≤ 84 ∧ 8 ≤ 5 ∨ 85 ≤ 77 ∧ 77 ≤ 87 ∧ 12 ≤ 5 by decide)
                refine to_c (pc := 13) rw_152_13 (x := (0 : Int32)) rfl rfl (s_r1 (pc := 14) rw_152_14 (A := 0) rfl (by decide) (s_r1 (pc := 13) rw_162_13 (A := 0) rfl (by decide) (b_ine_f (pc := 138) rw_170_138 (A := 0) rfl (by decide) (to_c (pc := 141) rw_170_141 (x := (0 : Int32)) rfl rfl (s_r1 (pc := 142) rw_170_142 (A := 0) rfl (by decide) ?_)))))
                have k_402 : (0 : Int32).toInt = 0 := rfl
                have c_403 : M399.2.1 77 7 = (M151.2.1 77 7) := (W_n W398 (by decide) (W_n W392 (by decide) rfl))
                have t_404 : (M399.2.1 77 7).toInt = (M151.2.1 77 7).toInt := congrArg Int32.toInt c_403
                have c_405 : M399.2.1 77 6 = (M.2.1 77 6) := (W_n W398 (by decide) (W_n W392 (by decide) c_154))
                have t_406 : (M399.2.1 77 6).toInt = (M.2.1 77 6).toInt := congrArg Int32.toInt c_405
                have c_407 : M399.2.1 77 8 = (M151.2.1 77 8) := (W_n W398 (by decide) (W_n W392 (by decide) rfl))
                have t_408 : (M399.2.1 77 8).toInt = (M151.2.1 77 8).toInt := congrArg Int32.toInt c_407
                have j_409 := (FA_f (fun a i z => W_n W398 (tg_231 a i z) rfl) (FA_f (fun a i z => W_n W392 (tg_232 a i z) rfl) (FA_f (tg_220 F146) (FA_f (tg_220 F92) (FA_f (tg_221 F77) (FA_f (tg_220 F65) q2))))))
                have j_410 := (WR_f (fun a i z => W_n W398 (by /-r77,5-/ omega) rfl) (WR_f (fun a i z => W_n W392 (by /-r77,4-/ omega) rfl) (WR_f (tg_222 F146) (WR_f (tg_222 F92) (WR_f (tg_223 F77) (WR_f (tg_222 F65) q3))))))
                exact h (0 : Int32) M399 hG400 F401 (by decide) (by decide) (by omega) (by omega) (by omega) j_409 j_410
            · refine to_in (pc := 91) rw_170_91 rfl (to_c (pc := 92) rw_170_92 (x := (3 : Int32)) rfl rfl (b_cne (pc := 93) rw_170_93 (A := v144.toInt) (B := 3) rfl rfl (fun h411 => ?_) (fun h411 => ?_)))
              · refine to_c (pc := 100) rw_170_100 (x := (0 : Int32)) rfl rfl (to_is (pc := 101) rw_170_101 (ls2 := [.ref 77, .int v85, .int (M70.2.1 77 9), .int v144, .int (0 : Int32), .null, .null, .null, .null]) rfl rfl (to_in (pc := 103) rw_170_103 rfl (to_c (pc := 104) rw_170_104 (x := (1 : Int32)) rfl rfl (b_cne (pc := 105) rw_170_105 (A := v144.toInt) (B := 1) rfl rfl (fun h412 => ?_) (fun h412 => ?_)))))
                · refine to_in (pc := 112) rw_170_112 rfl (to_c (pc := 113) rw_170_113 (x := (2 : Int32)) rfl rfl (b_cne_f (pc := 114) rw_170_114 (A := v144.toInt) (B := 2) rfl rfl (by omega) (to_c (pc := 117) rw_170_117 (x := (4 : Int32)) rfl rfl (to_go (pc := 118) rw_170_118 (to_is (pc := 122) rw_170_122 (ls2 := [.ref 77, .int v85, .int (M70.2.1 77 9), .int v144, .int (0 : Int32), .int (4 : Int32), .null, .null, .null]) rfl rfl (to_an (pc := 124) rw_170_124 rfl (to_c (pc := 125) rw_170_125 (x := (0 : Int32)) rfl rfl (to_an (pc := 126) rw_170_126 rfl ?_))))))))
                  have c_413 : M151.2.1 77 14 = (M.2.1 77 14) := (F_n F146 (show ¬ (77 = 77 ∧ 7 ≤ 14 ∧ 14 ≤ 10) by decide) (F_n F92 (show ¬ (77 = 77 ∧ 7 ≤ 14 ∧ 14 ≤ 10) by decide) (F_n F77 (show ¬ (77 = 77 ∧ (14 = 4 ∨ 14 = 5)) by decide) (F_n F65 (show ¬ (77 = 77 ∧ 7 ≤ 14 ∧ 14 ≤ 10) by decide) rfl))))
                  have b_414 := g_b hG (a := 77) (i := 14) (lo := 10) (hi := 60) rfl rfl
                  refine tt_gI (pc := 127) rw_170_127 (g_o hG147 rfl) (v := (M.2.1 77 14)) c_413 (to_c (pc := 130) rw_170_130 (x := (1 : Int32)) rfl rfl (s_sub (pc := 131) rw_170_131 (A := (M.2.1 77 14).toInt) (B := 1) rfl rfl (by omega) (fun v415 e416 => to_i (pc := 132) rw_170_132 rfl (s_sub (pc := 134) rw_170_134 (A := v415.toInt) (B := 4) rfl rfl (by omega) (fun v417 e418 => s_v (pc := 135) rw_170_135 (dp0 hd (by decide)) (ls0 := [.ref 77, .int (0 : Int32), .int v417]) rfl (Nat.le_of_ble_eq_true rfl) (Nat.le_of_ble_eq_true rfl) rfl (to_rc rfl rfl rfl (g_o hG147 rfl)) rfl (to_an (pc := 0) rw_162_0 rfl (tt_gI (pc := 1) rw_162_1 (g_o hG147 rfl) (v := (M151.2.1 77 8)) rfl (to_c (pc := 4) rw_162_4 (x := (3 : Int32)) rfl rfl (b_ceq (pc := 5) rw_162_5 (A := (M151.2.1 77 8).toInt) (B := 3) rfl rfl (fun h419 => ?_) (fun h419 => ?_))))))))))
                  · refine to_an (pc := 14) rw_162_14 rfl (tt_gI (pc := 15) rw_162_15 (g_o hG147 rfl) (v := (M151.2.1 77 9)) rfl (to_in (pc := 18) rw_162_18 rfl (b_clt (pc := 19) rw_162_19 (A := (M151.2.1 77 9).toInt) (B := 0) rfl rfl (fun h420 => ?_) (fun h420 => ?_))))
                    · refine to_an (pc := 30) rw_162_30 rfl (to_c (pc := 31) rw_162_31 (x := (2 : Int32)) rfl rfl (s_v (pc := 32) rw_162_32 (dp1 hd (by decide)) (ls0 := [.ref 77, .int (2 : Int32)]) rfl (Nat.le_of_ble_eq_true rfl) (Nat.le_of_ble_eq_true rfl) rfl (to_rc rfl rfl rfl (g_o hG147 rfl)) rfl (to_an (pc := 0) rw_152_0 rfl (to_in (pc := 1) rw_152_1 rfl (s_pI (pc := 2) rw_152_2 hG147 rfl (fun M422 W421 => ?_))))))
                      have hG423 := g_wf hG147 W421 rfl rfl (by decide)
                      have F424 := FR.w F152 W421 (show 77 = 77 ∧ (4 = 4 ∨ 4 = 5 ∨ 7 ≤ 4 ∧ 4 ≤ 10 ∨ 14 ≤ 4 ∧ 4 ≤ 16 ∨ 4 = 25) ∨ 80 ≤ 77 ∧ 77 ≤ 84 ∧ 8 ≤ 4 ∨ 85 ≤ 77 ∧ 77 ≤ 87 ∧ 12 ≤ 4 by decide)
                      refine to_an (pc := 5) rw_152_5 rfl (to_an (pc := 6) rw_152_6 rfl ?_)
                      have c_425 : M422.2.1 77 10 = (M151.2.1 77 10) := (W_n W421 (by decide) rfl)
                      have b_426 := g_b hG147 (a := 77) (i := 10) (lo := 0) (hi := 500) rfl rfl
                      refine tt_gI (pc := 7) rw_152_7 (g_o hG423 rfl) (v := (M151.2.1 77 10)) c_425 (s_pI (pc := 10) rw_152_10 hG423 rfl (fun M428 W427 => ?_))
                      have hG429 := g_wf hG423 W427 rfl rfl (by decide)
                      have F430 := FR.w F424 W427 (show 77 = 77 ∧ (5 = 4 ∨ 5 = 5 ∨ 7 ≤ 5 ∧ 5 ≤ 10 ∨ 14 ≤ 5 ∧ 5 ≤ 16 ∨ 5 = 25) ∨ 80 ≤ 77 ∧ 77 ≤ 84 ∧ 8 ≤ 5 ∨ 85 ≤ 77 ∧ 77 ≤ 87 ∧ 12 ≤ 5 by decide)
                      refine to_c (pc := 13) rw_152_13 (x := (0 : Int32)) rfl rfl (s_r1 (pc := 14) rw_152_14 (A := 0) rfl (by decide) (b_ieq_t (pc := 35) rw_162_35 (A := 0) rfl (by decide) (to_c (pc := 42) rw_162_42 (x := (0 : Int32)) rfl rfl (s_r1 (pc := 43) rw_162_43 (A := 0) rfl (by decide) (b_ine_f (pc := 138) rw_170_138 (A := 0) rfl (by decide) (to_c (pc := 141) rw_170_141 (x := (0 : Int32)) rfl rfl (s_r1 (pc := 142) rw_170_142 (A := 0) rfl (by decide) ?_)))))))
                      have k_431 : (0 : Int32).toInt = 0 := rfl
                      have c_432 : M428.2.1 77 7 = (M151.2.1 77 7) := (W_n W427 (by decide) (W_n W421 (by decide) rfl))
                      have t_433 : (M428.2.1 77 7).toInt = (M151.2.1 77 7).toInt := congrArg Int32.toInt c_432
                      have c_434 : M428.2.1 77 6 = (M.2.1 77 6) := (W_n W427 (by decide) (W_n W421 (by decide) c_154))
                      have t_435 : (M428.2.1 77 6).toInt = (M.2.1 77 6).toInt := congrArg Int32.toInt c_434
                      have c_436 : M428.2.1 77 8 = (M151.2.1 77 8) := (W_n W427 (by decide) (W_n W421 (by decide) rfl))
                      have t_437 : (M428.2.1 77 8).toInt = (M151.2.1 77 8).toInt := congrArg Int32.toInt c_436
                      have j_438 := (FA_f (fun a i z => W_n W427 (tg_231 a i z) rfl) (FA_f (fun a i z => W_n W421 (tg_232 a i z) rfl) (FA_f (tg_220 F146) (FA_f (tg_220 F92) (FA_f (tg_221 F77) (FA_f (tg_220 F65) q2))))))
                      have j_439 := (WR_f (fun a i z => W_n W427 (by /-r77,5-/ omega) rfl) (WR_f (fun a i z => W_n W421 (by /-r77,4-/ omega) rfl) (WR_f (tg_222 F146) (WR_f (tg_222 F92) (WR_f (tg_223 F77) (WR_f (tg_222 F65) q3))))))
                      exact h (0 : Int32) M428 hG429 F430 (by decide) (by decide) (by omega) (by omega) (by omega) j_438 j_439
                    · refine to_an (pc := 22) rw_162_22 rfl (tt_gI (pc := 23) rw_162_23 (g_o hG147 rfl) (v := (M151.2.1 77 9)) rfl (to_in (pc := 26) rw_162_26 rfl (b_cle (pc := 27) rw_162_27 (A := (M151.2.1 77 9).toInt) (B := v417.toInt) rfl rfl (fun h440 => ?_) (fun h440 => ?_))))
                      · refine to_c (pc := 38) rw_162_38 (x := (1 : Int32)) rfl rfl (to_go (pc := 39) rw_162_39 (s_r1 (pc := 43) rw_162_43 (A := 1) rfl (by decide) (b_ine_t (pc := 138) rw_170_138 (A := 1) rfl (by decide) (to_an (pc := 143) rw_170_143 rfl (tt_gI (pc := 144) rw_170_144 (g_o hG147 rfl) (v := (M151.2.1 77 9)) rfl (to_is (pc := 147) rw_170_147 (ls2 := [.ref 77, .int v85, .int (M70.2.1 77 9), .int v144, .int (0 : Int32), .int (4 : Int32), .int (M151.2.1 77 9), .null, .null]) rfl rfl (to_an (pc := 149) rw_170_149 rfl (s_gJ (pc := 150) rw_170_150 hG147 rfl (fun l441 => to_i (pc := 153) rw_170_153 rfl (to_i (pc := 155) rw_170_155 rfl (to_i (pc := 157) rw_170_157 rfl ?_)))))))))))
                        refine s_add (pc := 159) rw_170_159 (A := (M151.2.1 77 9).toInt) (B := 4) rfl rfl (by omega) (fun v442 e443 => s_s (pc := 160) rw_170_160 (dp0 hd (by decide)) (ls0 := [.int (M151.2.1 77 9), .int v442, .null, .null, .null]) rfl (Nat.le_of_ble_eq_true rfl) (Nat.le_of_ble_eq_true rfl) rfl (to_rcs rfl rfl) rfl (C_168 hX (dp1 hd (by decide)) hG147 (by omega) (by omega) (by omega) (a := (M151.2.1 77 9)) (b := v442) (fun r444 M447 hG446 F445 => ?_)))
                        have F448 := FR.c F152 F445 tg_227
                        refine s_anyL (pc := 163) rw_170_163 (fun _ _ => rfl) (fun l449 => s_cl (pc := 164) rw_170_164 rfl (fun l450 => s_lcmp (pc := 165) rw_170_165 (fun v451 => b_ieq (pc := 166) rw_170_166 (A := v451.toInt) rfl (fun h452 => ?_) (fun h452 => ?_))))
                        · refine to_an (pc := 175) rw_170_175 rfl (s_v (pc := 176) rw_170_176 (dp0 hd (by decide)) (ls0 := [.ref 77]) rfl (Nat.le_of_ble_eq_true rfl) (Nat.le_of_ble_eq_true rfl) rfl (to_rc rfl rfl rfl (g_o hG446 rfl)) rfl ?_)
                          have c_453 : M447.2.1 77 7 = (M151.2.1 77 7) := (F_n F445 (show ¬ (77 < 0) by decide) rfl)
                          have t_454 : (M447.2.1 77 7).toInt = (M151.2.1 77 7).toInt := congrArg Int32.toInt c_453
                          have c_455 : M447.2.1 77 6 = (M.2.1 77 6) := (F_n F445 (show ¬ (77 < 0) by decide) c_154)
                          have t_456 : (M447.2.1 77 6).toInt = (M.2.1 77 6).toInt := congrArg Int32.toInt c_455
                          refine C_156 hX (dp1 hd (by decide)) hG446 (by omega)  (fun M462 hG458 F457 p_459 p_460 p_461 => ?_)
                          have F463 := FR.c F448 F457 tg_79
                          have b_464 := g_b hG458 (a := 77) (i := 7) (lo := 0) (hi := 500) rfl rfl
                          have c_465 : M462.2.1 77 6 = (M.2.1 77 6) := (F_n F457 (show ¬ (77 = 77 ∧ 7 ≤ 6 ∧ 6 ≤ 10) by decide) c_455)
                          have t_466 : (M462.2.1 77 6).toInt = (M.2.1 77 6).toInt := congrArg Int32.toInt c_465
                          have b_467 := g_b hG458 (a := 77) (i := 8) (lo := 0) (hi := 5) rfl rfl
                          refine to_i (pc := 179) rw_170_179 rfl (to_i (pc := 181) rw_170_181 rfl (s_add (pc := 183) rw_170_183 (A := (M151.2.1 77 9).toInt) (B := 4) rfl rfl (by omega) (fun v468 e469 => to_is (pc := 184) rw_170_184 (ls2 := [.ref 77, .int v85, .int (M70.2.1 77 9), .int v144, .int (0 : Int32), .int (4 : Int32), .int (M151.2.1 77 9), .int v468, .null]) rfl rfl (to_c (pc := 186) rw_170_186 (x := (10 : Int32)) rfl rfl (to_is (pc := 188) rw_170_188 (ls2 := [.ref 77, .int v85, .int (M70.2.1 77 9), .int v144, .int (0 : Int32), .int (4 : Int32), .int (M151.2.1 77 9), .int v468, .int (10 : Int32)]) rfl rfl (to_i (pc := 190) rw_170_190 rfl (b_ieq_t (pc := 192) rw_170_192 (A := 0) rfl (by decide) ?_)))))))
                          have k_470 : (10 : Int32).toInt = 10 := rfl
                          have c_471 : M462.2.1 77 15 = (M.2.1 77 15) := (F_n F457 (show ¬ (77 = 77 ∧ 7 ≤ 15 ∧ 15 ≤ 10) by decide) (F_n F445 (show ¬ (77 < 0) by decide) (F_n F146 (show ¬ (77 = 77 ∧ 7 ≤ 15 ∧ 15 ≤ 10) by decide) (F_n F92 (show ¬ (77 = 77 ∧ 7 ≤ 15 ∧ 15 ≤ 10) by decide) c_84))))
                          have t_472 : (M462.2.1 77 15).toInt = (M.2.1 77 15).toInt := congrArg Int32.toInt c_471
                          have j_473 := (FA_f (tg_220 F457) (FA_f (tg_218 F445) (FA_f (tg_220 F146) (FA_f (tg_220 F92) (FA_f (tg_221 F77) (FA_f (tg_220 F65) q2))))))
                          have j_474 := (WR_f (tg_222 F457) (WR_f (tg_219 F445) (WR_f (tg_222 F146) (WR_f (tg_222 F92) (WR_f (tg_223 F77) (WR_f (tg_222 F65) q3))))))
                          exact (T_170_0 hX hd q1 q2 q3 h (((0 : Int)).toNat + 1)) M462 v85 (M70.2.1 77 9) v144 (.int (0 : Int32)) (.int (4 : Int32)) (M151.2.1 77 9) v468 (10 : Int32) hG458 F463 (by omega) (by omega) (by omega) (by omega) (by omega) (by omega) (by omega) (by omega) (by omega) (by omega) (by omega) (by omega) (by omega) (by omega) (by omega) j_473 j_474 (by omega)
                        · refine to_an (pc := 169) rw_170_169 rfl (to_c (pc := 170) rw_170_170 (x := (3 : Int32)) rfl rfl (s_v (pc := 171) rw_170_171 (dp0 hd (by decide)) (ls0 := [.ref 77, .int (3 : Int32)]) rfl (Nat.le_of_ble_eq_true rfl) (Nat.le_of_ble_eq_true rfl) rfl (to_rc rfl rfl rfl (g_o hG446 rfl)) rfl (to_an (pc := 0) rw_152_0 rfl (to_in (pc := 1) rw_152_1 rfl (s_pI (pc := 2) rw_152_2 hG446 rfl (fun M476 W475 => ?_))))))
                          have hG477 := g_wf hG446 W475 rfl rfl (by decide)
                          have F478 := FR.w F448 W475 (show 77 = 77 ∧ (4 = 4 ∨ 4 = 5 ∨ 7 ≤ 4 ∧ 4 ≤ 10 ∨ 14 ≤ 4 ∧ 4 ≤ 16 ∨ 4 = 25) ∨ 80 ≤ 77 ∧ 77 ≤ 84 ∧ 8 ≤ 4 ∨ 85 ≤ 77 ∧ 77 ≤ 87 ∧ 12 ≤ 4 by decide)
                          refine to_an (pc := 5) rw_152_5 rfl (to_an (pc := 6) rw_152_6 rfl ?_)
                          have c_479 : M476.2.1 77 10 = (M151.2.1 77 10) := (W_n W475 (by decide) (F_n F445 (show ¬ (77 < 0) by decide) rfl))
                          have b_480 := g_b hG147 (a := 77) (i := 10) (lo := 0) (hi := 500) rfl rfl
                          refine tt_gI (pc := 7) rw_152_7 (g_o hG477 rfl) (v := (M151.2.1 77 10)) c_479 (s_pI (pc := 10) rw_152_10 hG477 rfl (fun M482 W481 => ?_))
                          have hG483 := g_wf hG477 W481 rfl rfl (by decide)
                          have F484 := FR.w F478 W481 (show 77 = 77 ∧ (5 = 4 ∨ 5 = 5 ∨ 7 ≤ 5 ∧ 5 ≤ 10 ∨ 14 ≤ 5 ∧ 5 ≤ 16 ∨ 5 = 25) ∨ 80 ≤ 77 ∧ 77 ≤ 84 ∧ 8 ≤ 5 ∨ 85 ≤ 77 ∧ 77 ≤ 87 ∧ 12 ≤ 5 by decide)
                          refine to_c (pc := 13) rw_152_13 (x := (0 : Int32)) rfl rfl (s_r1 (pc := 14) rw_152_14 (A := 0) rfl (by decide) (s_r1 (pc := 174) rw_170_174 (A := 0) rfl (by decide) ?_))
                          have k_485 : (0 : Int32).toInt = 0 := rfl
                          have c_486 : M482.2.1 77 7 = (M151.2.1 77 7) := (W_n W481 (by decide) (W_n W475 (by decide) (F_n F445 (show ¬ (77 < 0) by decide) rfl)))
                          have t_487 : (M482.2.1 77 7).toInt = (M151.2.1 77 7).toInt := congrArg Int32.toInt c_486
                          have c_488 : M482.2.1 77 6 = (M.2.1 77 6) := (W_n W481 (by decide) (W_n W475 (by decide) (F_n F445 (show ¬ (77 < 0) by decide) c_154)))
                          have t_489 : (M482.2.1 77 6).toInt = (M.2.1 77 6).toInt := congrArg Int32.toInt c_488
                          have c_490 : M482.2.1 77 8 = (M151.2.1 77 8) := (W_n W481 (by decide) (W_n W475 (by decide) (F_n F445 (show ¬ (77 < 0) by decide) rfl)))
                          have t_491 : (M482.2.1 77 8).toInt = (M151.2.1 77 8).toInt := congrArg Int32.toInt c_490
                          have j_492 := (FA_f (fun a i z => W_n W481 (tg_231 a i z) rfl) (FA_f (fun a i z => W_n W475 (tg_232 a i z) rfl) (FA_f (tg_218 F445) (FA_f (tg_220 F146) (FA_f (tg_220 F92) (FA_f (tg_221 F77) (FA_f (tg_220 F65) q2)))))))
                          have j_493 := (WR_f (fun a i z => W_n W481 (by /-r77,5-/ omega) rfl) (WR_f (fun a i z => W_n W475 (by /-r77,4-/ omega) rfl) (WR_f (tg_219 F445) (WR_f (tg_222 F146) (WR_f (tg_222 F92) (WR_f (tg_223 F77) (WR_f (tg_222 F65) q3)))))))
                          exact h (0 : Int32) M482 hG483 F484 (by decide) (by decide) (by omega) (by omega) (by omega) j_492 j_493
                      · refine to_an (pc := 30) rw_162_30 rfl (to_c (pc := 31) rw_162_31 (x := (2 : Int32)) rfl rfl (s_v (pc := 32) rw_162_32 (dp1 hd (by decide)) (ls0 := [.ref 77, .int (2 : Int32)]) rfl (Nat.le_of_ble_eq_true rfl) (Nat.le_of_ble_eq_true rfl) rfl (to_rc rfl rfl rfl (g_o hG147 rfl)) rfl (to_an (pc := 0) rw_152_0 rfl (to_in (pc := 1) rw_152_1 rfl (s_pI (pc := 2) rw_152_2 hG147 rfl (fun M495 W494 => ?_))))))
                        have hG496 := g_wf hG147 W494 rfl rfl (by decide)
                        have F497 := FR.w F152 W494 (show 77 = 77 ∧ (4 = 4 ∨ 4 = 5 ∨ 7 ≤ 4 ∧ 4 ≤ 10 ∨ 14 ≤ 4 ∧ 4 ≤ 16 ∨ 4 = 25) ∨ 80 ≤ 77 ∧ 77 ≤ 84 ∧ 8 ≤ 4 ∨ 85 ≤ 77 ∧ 77 ≤ 87 ∧ 12 ≤ 4 by decide)
                        refine to_an (pc := 5) rw_152_5 rfl (to_an (pc := 6) rw_152_6 rfl ?_)
                        have c_498 : M495.2.1 77 10 = (M151.2.1 77 10) := (W_n W494 (by decide) rfl)
                        have b_499 := g_b hG147 (a := 77) (i := 10) (lo := 0) (hi := 500) rfl rfl
                        refine tt_gI (pc := 7) rw_152_7 (g_o hG496 rfl) (v := (M151.2.1 77 10)) c_498 (s_pI (pc := 10) rw_152_10 hG496 rfl (fun M501 W500 => ?_))
                        have hG502 := g_wf hG496 W500 rfl rfl (by decide)
                        have F503 := FR.w F497 W500 (show 77 = 77 ∧ (5 = 4 ∨ 5 = 5 ∨ 7 ≤ 5 ∧ 5 ≤ 10 ∨ 14 ≤ 5 ∧ 5 ≤ 16 ∨ 5 = 25) ∨ 80 ≤ 77 ∧ 77 ≤ 84 ∧ 8 ≤ 5 ∨ 85 ≤ 77 ∧ 77 ≤ 87 ∧ 12 ≤ 5 by decide)
                        refine to_c (pc := 13) rw_152_13 (x := (0 : Int32)) rfl rfl (s_r1 (pc := 14) rw_152_14 (A := 0) rfl (by decide) (b_ieq_t (pc := 35) rw_162_35 (A := 0) rfl (by decide) (to_c (pc := 42) rw_162_42 (x := (0 : Int32)) rfl rfl (s_r1 (pc := 43) rw_162_43 (A := 0) rfl (by decide) (b_ine_f (pc := 138) rw_170_138 (A := 0) rfl (by decide) (to_c (pc := 141) rw_170_141 (x := (0 : Int32)) rfl rfl (s_r1 (pc := 142) rw_170_142 (A := 0) rfl (by decide) ?_)))))))
                        have k_504 : (0 : Int32).toInt = 0 := rfl
                        have c_505 : M501.2.1 77 7 = (M151.2.1 77 7) := (W_n W500 (by decide) (W_n W494 (by decide) rfl))
                        have t_506 : (M501.2.1 77 7).toInt = (M151.2.1 77 7).toInt := congrArg Int32.toInt c_505
                        have c_507 : M501.2.1 77 6 = (M.2.1 77 6) := (W_n W500 (by decide) (W_n W494 (by decide) c_154))
                        have t_508 : (M501.2.1 77 6).toInt = (M.2.1 77 6).toInt := congrArg Int32.toInt c_507
                        have c_509 : M501.2.1 77 8 = (M151.2.1 77 8) := (W_n W500 (by decide) (W_n W494 (by decide) rfl))
                        have t_510 : (M501.2.1 77 8).toInt = (M151.2.1 77 8).toInt := congrArg Int32.toInt c_509
                        have j_511 := (FA_f (fun a i z => W_n W500 (tg_231 a i z) rfl) (FA_f (fun a i z => W_n W494 (tg_232 a i z) rfl) (FA_f (tg_220 F146) (FA_f (tg_220 F92) (FA_f (tg_221 F77) (FA_f (tg_220 F65) q2))))))
                        have j_512 := (WR_f (fun a i z => W_n W500 (by /-r77,5-/ omega) rfl) (WR_f (fun a i z => W_n W494 (by /-r77,4-/ omega) rfl) (WR_f (tg_222 F146) (WR_f (tg_222 F92) (WR_f (tg_223 F77) (WR_f (tg_222 F65) q3))))))
                        exact h (0 : Int32) M501 hG502 F503 (by decide) (by decide) (by omega) (by omega) (by omega) j_511 j_512
                  · refine to_an (pc := 8) rw_162_8 rfl (to_c (pc := 9) rw_162_9 (x := (1 : Int32)) rfl rfl (s_v (pc := 10) rw_162_10 (dp1 hd (by decide)) (ls0 := [.ref 77, .int (1 : Int32)]) rfl (Nat.le_of_ble_eq_true rfl) (Nat.le_of_ble_eq_true rfl) rfl (to_rc rfl rfl rfl (g_o hG147 rfl)) rfl (to_an (pc := 0) rw_152_0 rfl (to_in (pc := 1) rw_152_1 rfl (s_pI (pc := 2) rw_152_2 hG147 rfl (fun M514 W513 => ?_))))))
                    have hG515 := g_wf hG147 W513 rfl rfl (by decide)
                    have F516 := FR.w F152 W513 (show 77 = 77 ∧ (4 = 4 ∨ 4 = 5 ∨ 7 ≤ 4 ∧ 4 ≤ 10 ∨ 14 ≤ 4 ∧ 4 ≤ 16 ∨ 4 = 25) ∨ 80 ≤ 77 ∧ 77 ≤ 84 ∧ 8 ≤ 4 ∨ 85 ≤ 77 ∧ 77 ≤ 87 ∧ 12 ≤ 4 by decide)
                    refine to_an (pc := 5) rw_152_5 rfl (to_an (pc := 6) rw_152_6 rfl ?_)
                    have c_517 : M514.2.1 77 10 = (M151.2.1 77 10) := (W_n W513 (by decide) rfl)
                    have b_518 := g_b hG147 (a := 77) (i := 10) (lo := 0) (hi := 500) rfl rfl
                    refine tt_gI (pc := 7) rw_152_7 (g_o hG515 rfl) (v := (M151.2.1 77 10)) c_517 (s_pI (pc := 10) rw_152_10 hG515 rfl (fun M520 W519 => ?_))
                    have hG521 := g_wf hG515 W519 rfl rfl (by decide)
                    have F522 := FR.w F516 W519 (show 77 = 77 ∧ (5 = 4 ∨ 5 = 5 ∨ 7 ≤ 5 ∧ 5 ≤ 10 ∨ 14 ≤ 5 ∧ 5 ≤ 16 ∨ 5 = 25) ∨ 80 ≤ 77 ∧ 77 ≤ 84 ∧ 8 ≤ 5 ∨ 85 ≤ 77 ∧ 77 ≤ 87 ∧ 12 ≤ 5 by decide)
                    refine to_c (pc := 13) rw_152_13 (x := (0 : Int32)) rfl rfl (s_r1 (pc := 14) rw_152_14 (A := 0) rfl (by decide) (s_r1 (pc := 13) rw_162_13 (A := 0) rfl (by decide) (b_ine_f (pc := 138) rw_170_138 (A := 0) rfl (by decide) (to_c (pc := 141) rw_170_141 (x := (0 : Int32)) rfl rfl (s_r1 (pc := 142) rw_170_142 (A := 0) rfl (by decide) ?_)))))
                    have k_523 : (0 : Int32).toInt = 0 := rfl
                    have c_524 : M520.2.1 77 7 = (M151.2.1 77 7) := (W_n W519 (by decide) (W_n W513 (by decide) rfl))
                    have t_525 : (M520.2.1 77 7).toInt = (M151.2.1 77 7).toInt := congrArg Int32.toInt c_524
                    have c_526 : M520.2.1 77 6 = (M.2.1 77 6) := (W_n W519 (by decide) (W_n W513 (by decide) c_154))
                    have t_527 : (M520.2.1 77 6).toInt = (M.2.1 77 6).toInt := congrArg Int32.toInt c_526
                    have c_528 : M520.2.1 77 8 = (M151.2.1 77 8) := (W_n W519 (by decide) (W_n W513 (by decide) rfl))
                    have t_529 : (M520.2.1 77 8).toInt = (M151.2.1 77 8).toInt := congrArg Int32.toInt c_528
                    have j_530 := (FA_f (fun a i z => W_n W519 (tg_231 a i z) rfl) (FA_f (fun a i z => W_n W513 (tg_232 a i z) rfl) (FA_f (tg_220 F146) (FA_f (tg_220 F92) (FA_f (tg_221 F77) (FA_f (tg_220 F65) q2))))))
                    have j_531 := (WR_f (fun a i z => W_n W519 (by /-r77,5-/ omega) rfl) (WR_f (fun a i z => W_n W513 (by /-r77,4-/ omega) rfl) (WR_f (tg_222 F146) (WR_f (tg_222 F92) (WR_f (tg_223 F77) (WR_f (tg_222 F65) q3))))))
                    exact h (0 : Int32) M520 hG521 F522 (by decide) (by decide) (by omega) (by omega) (by omega) j_530 j_531
                · refine to_c (pc := 108) rw_170_108 (x := (3 : Int32)) rfl rfl (to_go (pc := 109) rw_170_109 (to_is (pc := 122) rw_170_122 (ls2 := [.ref 77, .int v85, .int (M70.2.1 77 9), .int v144, .int (0 : Int32), .int (3 : Int32), .null, .null, .null]) rfl rfl (to_an (pc := 124) rw_170_124 rfl (to_c (pc := 125) rw_170_125 (x := (0 : Int32)) rfl rfl (to_an (pc := 126) rw_170_126 rfl ?_)))))
                  have c_532 : M151.2.1 77 14 = (M.2.1 77 14) := (F_n F146 (show ¬ (77 = 77 ∧ 7 ≤ 14 ∧ 14 ≤ 10) by decide) (F_n F92 (show ¬ (77 = 77 ∧ 7 ≤ 14 ∧ 14 ≤ 10) by decide) (F_n F77 (show ¬ (77 = 77 ∧ (14 = 4 ∨ 14 = 5)) by decide) (F_n F65 (show ¬ (77 = 77 ∧ 7 ≤ 14 ∧ 14 ≤ 10) by decide) rfl))))
                  have b_533 := g_b hG (a := 77) (i := 14) (lo := 10) (hi := 60) rfl rfl
                  refine tt_gI (pc := 127) rw_170_127 (g_o hG147 rfl) (v := (M.2.1 77 14)) c_532 (to_c (pc := 130) rw_170_130 (x := (1 : Int32)) rfl rfl (s_sub (pc := 131) rw_170_131 (A := (M.2.1 77 14).toInt) (B := 1) rfl rfl (by omega) (fun v534 e535 => to_i (pc := 132) rw_170_132 rfl (s_sub (pc := 134) rw_170_134 (A := v534.toInt) (B := 3) rfl rfl (by omega) (fun v536 e537 => s_v (pc := 135) rw_170_135 (dp0 hd (by decide)) (ls0 := [.ref 77, .int (0 : Int32), .int v536]) rfl (Nat.le_of_ble_eq_true rfl) (Nat.le_of_ble_eq_true rfl) rfl (to_rc rfl rfl rfl (g_o hG147 rfl)) rfl (to_an (pc := 0) rw_162_0 rfl (tt_gI (pc := 1) rw_162_1 (g_o hG147 rfl) (v := (M151.2.1 77 8)) rfl (to_c (pc := 4) rw_162_4 (x := (3 : Int32)) rfl rfl (b_ceq (pc := 5) rw_162_5 (A := (M151.2.1 77 8).toInt) (B := 3) rfl rfl (fun h538 => ?_) (fun h538 => ?_))))))))))
                  · refine to_an (pc := 14) rw_162_14 rfl (tt_gI (pc := 15) rw_162_15 (g_o hG147 rfl) (v := (M151.2.1 77 9)) rfl (to_in (pc := 18) rw_162_18 rfl (b_clt (pc := 19) rw_162_19 (A := (M151.2.1 77 9).toInt) (B := 0) rfl rfl (fun h539 => ?_) (fun h539 => ?_))))
                    · refine to_an (pc := 30) rw_162_30 rfl (to_c (pc := 31) rw_162_31 (x := (2 : Int32)) rfl rfl (s_v (pc := 32) rw_162_32 (dp1 hd (by decide)) (ls0 := [.ref 77, .int (2 : Int32)]) rfl (Nat.le_of_ble_eq_true rfl) (Nat.le_of_ble_eq_true rfl) rfl (to_rc rfl rfl rfl (g_o hG147 rfl)) rfl (to_an (pc := 0) rw_152_0 rfl (to_in (pc := 1) rw_152_1 rfl (s_pI (pc := 2) rw_152_2 hG147 rfl (fun M541 W540 => ?_))))))
                      have hG542 := g_wf hG147 W540 rfl rfl (by decide)
                      have F543 := FR.w F152 W540 (show 77 = 77 ∧ (4 = 4 ∨ 4 = 5 ∨ 7 ≤ 4 ∧ 4 ≤ 10 ∨ 14 ≤ 4 ∧ 4 ≤ 16 ∨ 4 = 25) ∨ 80 ≤ 77 ∧ 77 ≤ 84 ∧ 8 ≤ 4 ∨ 85 ≤ 77 ∧ 77 ≤ 87 ∧ 12 ≤ 4 by decide)
                      refine to_an (pc := 5) rw_152_5 rfl (to_an (pc := 6) rw_152_6 rfl ?_)
                      have c_544 : M541.2.1 77 10 = (M151.2.1 77 10) := (W_n W540 (by decide) rfl)
                      have b_545 := g_b hG147 (a := 77) (i := 10) (lo := 0) (hi := 500) rfl rfl
                      refine tt_gI (pc := 7) rw_152_7 (g_o hG542 rfl) (v := (M151.2.1 77 10)) c_544 (s_pI (pc := 10) rw_152_10 hG542 rfl (fun M547 W546 => ?_))
                      have hG548 := g_wf hG542 W546 rfl rfl (by decide)
                      have F549 := FR.w F543 W546 (show 77 = 77 ∧ (5 = 4 ∨ 5 = 5 ∨ 7 ≤ 5 ∧ 5 ≤ 10 ∨ 14 ≤ 5 ∧ 5 ≤ 16 ∨ 5 = 25) ∨ 80 ≤ 77 ∧ 77 ≤ 84 ∧ 8 ≤ 5 ∨ 85 ≤ 77 ∧ 77 ≤ 87 ∧ 12 ≤ 5 by decide)
                      refine to_c (pc := 13) rw_152_13 (x := (0 : Int32)) rfl rfl (s_r1 (pc := 14) rw_152_14 (A := 0) rfl (by decide) (b_ieq_t (pc := 35) rw_162_35 (A := 0) rfl (by decide) (to_c (pc := 42) rw_162_42 (x := (0 : Int32)) rfl rfl (s_r1 (pc := 43) rw_162_43 (A := 0) rfl (by decide) (b_ine_f (pc := 138) rw_170_138 (A := 0) rfl (by decide) (to_c (pc := 141) rw_170_141 (x := (0 : Int32)) rfl rfl (s_r1 (pc := 142) rw_170_142 (A := 0) rfl (by decide) ?_)))))))
                      have k_550 : (0 : Int32).toInt = 0 := rfl
                      have c_551 : M547.2.1 77 7 = (M151.2.1 77 7) := (W_n W546 (by decide) (W_n W540 (by decide) rfl))
                      have t_552 : (M547.2.1 77 7).toInt = (M151.2.1 77 7).toInt := congrArg Int32.toInt c_551
                      have c_553 : M547.2.1 77 6 = (M.2.1 77 6) := (W_n W546 (by decide) (W_n W540 (by decide) c_154))
                      have t_554 : (M547.2.1 77 6).toInt = (M.2.1 77 6).toInt := congrArg Int32.toInt c_553
                      have c_555 : M547.2.1 77 8 = (M151.2.1 77 8) := (W_n W546 (by decide) (W_n W540 (by decide) rfl))
                      have t_556 : (M547.2.1 77 8).toInt = (M151.2.1 77 8).toInt := congrArg Int32.toInt c_555
                      have j_557 := (FA_f (fun a i z => W_n W546 (tg_231 a i z) rfl) (FA_f (fun a i z => W_n W540 (tg_232 a i z) rfl) (FA_f (tg_220 F146) (FA_f (tg_220 F92) (FA_f (tg_221 F77) (FA_f (tg_220 F65) q2))))))
                      have j_558 := (WR_f (fun a i z => W_n W546 (by /-r77,5-/ omega) rfl) (WR_f (fun a i z => W_n W540 (by /-r77,4-/ omega) rfl) (WR_f (tg_222 F146) (WR_f (tg_222 F92) (WR_f (tg_223 F77) (WR_f (tg_222 F65) q3))))))
                      exact h (0 : Int32) M547 hG548 F549 (by decide) (by decide) (by omega) (by omega) (by omega) j_557 j_558
                    · refine to_an (pc := 22) rw_162_22 rfl (tt_gI (pc := 23) rw_162_23 (g_o hG147 rfl) (v := (M151.2.1 77 9)) rfl (to_in (pc := 26) rw_162_26 rfl (b_cle (pc := 27) rw_162_27 (A := (M151.2.1 77 9).toInt) (B := v536.toInt) rfl rfl (fun h559 => ?_) (fun h559 => ?_))))
                      · refine to_c (pc := 38) rw_162_38 (x := (1 : Int32)) rfl rfl (to_go (pc := 39) rw_162_39 (s_r1 (pc := 43) rw_162_43 (A := 1) rfl (by decide) (b_ine_t (pc := 138) rw_170_138 (A := 1) rfl (by decide) (to_an (pc := 143) rw_170_143 rfl (tt_gI (pc := 144) rw_170_144 (g_o hG147 rfl) (v := (M151.2.1 77 9)) rfl (to_is (pc := 147) rw_170_147 (ls2 := [.ref 77, .int v85, .int (M70.2.1 77 9), .int v144, .int (0 : Int32), .int (3 : Int32), .int (M151.2.1 77 9), .null, .null]) rfl rfl (to_an (pc := 149) rw_170_149 rfl (s_gJ (pc := 150) rw_170_150 hG147 rfl (fun l560 => to_i (pc := 153) rw_170_153 rfl (to_i (pc := 155) rw_170_155 rfl (to_i (pc := 157) rw_170_157 rfl ?_)))))))))))
                        refine s_add (pc := 159) rw_170_159 (A := (M151.2.1 77 9).toInt) (B := 3) rfl rfl (by omega) (fun v561 e562 => s_s (pc := 160) rw_170_160 (dp0 hd (by decide)) (ls0 := [.int (M151.2.1 77 9), .int v561, .null, .null, .null]) rfl (Nat.le_of_ble_eq_true rfl) (Nat.le_of_ble_eq_true rfl) rfl (to_rcs rfl rfl) rfl (C_168 hX (dp1 hd (by decide)) hG147 (by omega) (by omega) (by omega) (a := (M151.2.1 77 9)) (b := v561) (fun r563 M566 hG565 F564 => ?_)))
                        have F567 := FR.c F152 F564 tg_227
                        refine s_anyL (pc := 163) rw_170_163 (fun _ _ => rfl) (fun l568 => s_cl (pc := 164) rw_170_164 rfl (fun l569 => s_lcmp (pc := 165) rw_170_165 (fun v570 => b_ieq (pc := 166) rw_170_166 (A := v570.toInt) rfl (fun h571 => ?_) (fun h571 => ?_))))
                        · refine to_an (pc := 175) rw_170_175 rfl (s_v (pc := 176) rw_170_176 (dp0 hd (by decide)) (ls0 := [.ref 77]) rfl (Nat.le_of_ble_eq_true rfl) (Nat.le_of_ble_eq_true rfl) rfl (to_rc rfl rfl rfl (g_o hG565 rfl)) rfl ?_)
                          have c_572 : M566.2.1 77 7 = (M151.2.1 77 7) := (F_n F564 (show ¬ (77 < 0) by decide) rfl)
                          have t_573 : (M566.2.1 77 7).toInt = (M151.2.1 77 7).toInt := congrArg Int32.toInt c_572
                          have c_574 : M566.2.1 77 6 = (M.2.1 77 6) := (F_n F564 (show ¬ (77 < 0) by decide) c_154)
                          have t_575 : (M566.2.1 77 6).toInt = (M.2.1 77 6).toInt := congrArg Int32.toInt c_574
                          refine C_156 hX (dp1 hd (by decide)) hG565 (by omega)  (fun M581 hG577 F576 p_578 p_579 p_580 => ?_)
                          have F582 := FR.c F567 F576 tg_79
                          have b_583 := g_b hG577 (a := 77) (i := 7) (lo := 0) (hi := 500) rfl rfl
                          have c_584 : M581.2.1 77 6 = (M.2.1 77 6) := (F_n F576 (show ¬ (77 = 77 ∧ 7 ≤ 6 ∧ 6 ≤ 10) by decide) c_574)
                          have t_585 : (M581.2.1 77 6).toInt = (M.2.1 77 6).toInt := congrArg Int32.toInt c_584
                          have b_586 := g_b hG577 (a := 77) (i := 8) (lo := 0) (hi := 5) rfl rfl
                          refine to_i (pc := 179) rw_170_179 rfl (to_i (pc := 181) rw_170_181 rfl (s_add (pc := 183) rw_170_183 (A := (M151.2.1 77 9).toInt) (B := 3) rfl rfl (by omega) (fun v587 e588 => to_is (pc := 184) rw_170_184 (ls2 := [.ref 77, .int v85, .int (M70.2.1 77 9), .int v144, .int (0 : Int32), .int (3 : Int32), .int (M151.2.1 77 9), .int v587, .null]) rfl rfl (to_c (pc := 186) rw_170_186 (x := (10 : Int32)) rfl rfl (to_is (pc := 188) rw_170_188 (ls2 := [.ref 77, .int v85, .int (M70.2.1 77 9), .int v144, .int (0 : Int32), .int (3 : Int32), .int (M151.2.1 77 9), .int v587, .int (10 : Int32)]) rfl rfl (to_i (pc := 190) rw_170_190 rfl (b_ieq_t (pc := 192) rw_170_192 (A := 0) rfl (by decide) ?_)))))))
                          have k_589 : (10 : Int32).toInt = 10 := rfl
                          have c_590 : M581.2.1 77 15 = (M.2.1 77 15) := (F_n F576 (show ¬ (77 = 77 ∧ 7 ≤ 15 ∧ 15 ≤ 10) by decide) (F_n F564 (show ¬ (77 < 0) by decide) (F_n F146 (show ¬ (77 = 77 ∧ 7 ≤ 15 ∧ 15 ≤ 10) by decide) (F_n F92 (show ¬ (77 = 77 ∧ 7 ≤ 15 ∧ 15 ≤ 10) by decide) c_84))))
                          have t_591 : (M581.2.1 77 15).toInt = (M.2.1 77 15).toInt := congrArg Int32.toInt c_590
                          have j_592 := (FA_f (tg_220 F576) (FA_f (tg_218 F564) (FA_f (tg_220 F146) (FA_f (tg_220 F92) (FA_f (tg_221 F77) (FA_f (tg_220 F65) q2))))))
                          have j_593 := (WR_f (tg_222 F576) (WR_f (tg_219 F564) (WR_f (tg_222 F146) (WR_f (tg_222 F92) (WR_f (tg_223 F77) (WR_f (tg_222 F65) q3))))))
                          exact (T_170_0 hX hd q1 q2 q3 h (((0 : Int)).toNat + 1)) M581 v85 (M70.2.1 77 9) v144 (.int (0 : Int32)) (.int (3 : Int32)) (M151.2.1 77 9) v587 (10 : Int32) hG577 F582 (by omega) (by omega) (by omega) (by omega) (by omega) (by omega) (by omega) (by omega) (by omega) (by omega) (by omega) (by omega) (by omega) (by omega) (by omega) j_592 j_593 (by omega)
                        · refine to_an (pc := 169) rw_170_169 rfl (to_c (pc := 170) rw_170_170 (x := (3 : Int32)) rfl rfl (s_v (pc := 171) rw_170_171 (dp0 hd (by decide)) (ls0 := [.ref 77, .int (3 : Int32)]) rfl (Nat.le_of_ble_eq_true rfl) (Nat.le_of_ble_eq_true rfl) rfl (to_rc rfl rfl rfl (g_o hG565 rfl)) rfl (to_an (pc := 0) rw_152_0 rfl (to_in (pc := 1) rw_152_1 rfl (s_pI (pc := 2) rw_152_2 hG565 rfl (fun M595 W594 => ?_))))))
                          have hG596 := g_wf hG565 W594 rfl rfl (by decide)
                          have F597 := FR.w F567 W594 (show 77 = 77 ∧ (4 = 4 ∨ 4 = 5 ∨ 7 ≤ 4 ∧ 4 ≤ 10 ∨ 14 ≤ 4 ∧ 4 ≤ 16 ∨ 4 = 25) ∨ 80 ≤ 77 ∧ 77 ≤ 84 ∧ 8 ≤ 4 ∨ 85 ≤ 77 ∧ 77 ≤ 87 ∧ 12 ≤ 4 by decide)
                          refine to_an (pc := 5) rw_152_5 rfl (to_an (pc := 6) rw_152_6 rfl ?_)
                          have c_598 : M595.2.1 77 10 = (M151.2.1 77 10) := (W_n W594 (by decide) (F_n F564 (show ¬ (77 < 0) by decide) rfl))
                          have b_599 := g_b hG147 (a := 77) (i := 10) (lo := 0) (hi := 500) rfl rfl
                          refine tt_gI (pc := 7) rw_152_7 (g_o hG596 rfl) (v := (M151.2.1 77 10)) c_598 (s_pI (pc := 10) rw_152_10 hG596 rfl (fun M601 W600 => ?_))
                          have hG602 := g_wf hG596 W600 rfl rfl (by decide)
                          have F603 := FR.w F597 W600 (show 77 = 77 ∧ (5 = 4 ∨ 5 = 5 ∨ 7 ≤ 5 ∧ 5 ≤ 10 ∨ 14 ≤ 5 ∧ 5 ≤ 16 ∨ 5 = 25) ∨ 80 ≤ 77 ∧ 77 ≤ 84 ∧ 8 ≤ 5 ∨ 85 ≤ 77 ∧ 77 ≤ 87 ∧ 12 ≤ 5 by decide)
                          refine to_c (pc := 13) rw_152_13 (x := (0 : Int32)) rfl rfl (s_r1 (pc := 14) rw_152_14 (A := 0) rfl (by decide) (s_r1 (pc := 174) rw_170_174 (A := 0) rfl (by decide) ?_))
                          have k_604 : (0 : Int32).toInt = 0 := rfl
                          have c_605 : M601.2.1 77 7 = (M151.2.1 77 7) := (W_n W600 (by decide) (W_n W594 (by decide) (F_n F564 (show ¬ (77 < 0) by decide) rfl)))
                          have t_606 : (M601.2.1 77 7).toInt = (M151.2.1 77 7).toInt := congrArg Int32.toInt c_605
                          have c_607 : M601.2.1 77 6 = (M.2.1 77 6) := (W_n W600 (by decide) (W_n W594 (by decide) (F_n F564 (show ¬ (77 < 0) by decide) c_154)))
                          have t_608 : (M601.2.1 77 6).toInt = (M.2.1 77 6).toInt := congrArg Int32.toInt c_607
                          have c_609 : M601.2.1 77 8 = (M151.2.1 77 8) := (W_n W600 (by decide) (W_n W594 (by decide) (F_n F564 (show ¬ (77 < 0) by decide) rfl)))
                          have t_610 : (M601.2.1 77 8).toInt = (M151.2.1 77 8).toInt := congrArg Int32.toInt c_609
                          have j_611 := (FA_f (fun a i z => W_n W600 (tg_231 a i z) rfl) (FA_f (fun a i z => W_n W594 (tg_232 a i z) rfl) (FA_f (tg_218 F564) (FA_f (tg_220 F146) (FA_f (tg_220 F92) (FA_f (tg_221 F77) (FA_f (tg_220 F65) q2)))))))
                          have j_612 := (WR_f (fun a i z => W_n W600 (by /-r77,5-/ omega) rfl) (WR_f (fun a i z => W_n W594 (by /-r77,4-/ omega) rfl) (WR_f (tg_219 F564) (WR_f (tg_222 F146) (WR_f (tg_222 F92) (WR_f (tg_223 F77) (WR_f (tg_222 F65) q3)))))))
                          exact h (0 : Int32) M601 hG602 F603 (by decide) (by decide) (by omega) (by omega) (by omega) j_611 j_612
                      · refine to_an (pc := 30) rw_162_30 rfl (to_c (pc := 31) rw_162_31 (x := (2 : Int32)) rfl rfl (s_v (pc := 32) rw_162_32 (dp1 hd (by decide)) (ls0 := [.ref 77, .int (2 : Int32)]) rfl (Nat.le_of_ble_eq_true rfl) (Nat.le_of_ble_eq_true rfl) rfl (to_rc rfl rfl rfl (g_o hG147 rfl)) rfl (to_an (pc := 0) rw_152_0 rfl (to_in (pc := 1) rw_152_1 rfl (s_pI (pc := 2) rw_152_2 hG147 rfl (fun M614 W613 => ?_))))))
                        have hG615 := g_wf hG147 W613 rfl rfl (by decide)
                        have F616 := FR.w F152 W613 (show 77 = 77 ∧ (4 = 4 ∨ 4 = 5 ∨ 7 ≤ 4 ∧ 4 ≤ 10 ∨ 14 ≤ 4 ∧ 4 ≤ 16 ∨ 4 = 25) ∨ 80 ≤ 77 ∧ 77 ≤ 84 ∧ 8 ≤ 4 ∨ 85 ≤ 77 ∧ 77 ≤ 87 ∧ 12 ≤ 4 by decide)
                        refine to_an (pc := 5) rw_152_5 rfl (to_an (pc := 6) rw_152_6 rfl ?_)
                        have c_617 : M614.2.1 77 10 = (M151.2.1 77 10) := (W_n W613 (by decide) rfl)
                        have b_618 := g_b hG147 (a := 77) (i := 10) (lo := 0) (hi := 500) rfl rfl
                        refine tt_gI (pc := 7) rw_152_7 (g_o hG615 rfl) (v := (M151.2.1 77 10)) c_617 (s_pI (pc := 10) rw_152_10 hG615 rfl (fun M620 W619 => ?_))
                        have hG621 := g_wf hG615 W619 rfl rfl (by decide)
                        have F622 := FR.w F616 W619 (show 77 = 77 ∧ (5 = 4 ∨ 5 = 5 ∨ 7 ≤ 5 ∧ 5 ≤ 10 ∨ 14 ≤ 5 ∧ 5 ≤ 16 ∨ 5 = 25) ∨ 80 ≤ 77 ∧ 77 ≤ 84 ∧ 8 ≤ 5 ∨ 85 ≤ 77 ∧ 77 ≤ 87 ∧ 12 ≤ 5 by decide)
                        refine to_c (pc := 13) rw_152_13 (x := (0 : Int32)) rfl rfl (s_r1 (pc := 14) rw_152_14 (A := 0) rfl (by decide) (b_ieq_t (pc := 35) rw_162_35 (A := 0) rfl (by decide) (to_c (pc := 42) rw_162_42 (x := (0 : Int32)) rfl rfl (s_r1 (pc := 43) rw_162_43 (A := 0) rfl (by decide) (b_ine_f (pc := 138) rw_170_138 (A := 0) rfl (by decide) (to_c (pc := 141) rw_170_141 (x := (0 : Int32)) rfl rfl (s_r1 (pc := 142) rw_170_142 (A := 0) rfl (by decide) ?_)))))))
                        have k_623 : (0 : Int32).toInt = 0 := rfl
                        have c_624 : M620.2.1 77 7 = (M151.2.1 77 7) := (W_n W619 (by decide) (W_n W613 (by decide) rfl))
                        have t_625 : (M620.2.1 77 7).toInt = (M151.2.1 77 7).toInt := congrArg Int32.toInt c_624
                        have c_626 : M620.2.1 77 6 = (M.2.1 77 6) := (W_n W619 (by decide) (W_n W613 (by decide) c_154))
                        have t_627 : (M620.2.1 77 6).toInt = (M.2.1 77 6).toInt := congrArg Int32.toInt c_626
                        have c_628 : M620.2.1 77 8 = (M151.2.1 77 8) := (W_n W619 (by decide) (W_n W613 (by decide) rfl))
                        have t_629 : (M620.2.1 77 8).toInt = (M151.2.1 77 8).toInt := congrArg Int32.toInt c_628
                        have j_630 := (FA_f (fun a i z => W_n W619 (tg_231 a i z) rfl) (FA_f (fun a i z => W_n W613 (tg_232 a i z) rfl) (FA_f (tg_220 F146) (FA_f (tg_220 F92) (FA_f (tg_221 F77) (FA_f (tg_220 F65) q2))))))
                        have j_631 := (WR_f (fun a i z => W_n W619 (by /-r77,5-/ omega) rfl) (WR_f (fun a i z => W_n W613 (by /-r77,4-/ omega) rfl) (WR_f (tg_222 F146) (WR_f (tg_222 F92) (WR_f (tg_223 F77) (WR_f (tg_222 F65) q3))))))
                        exact h (0 : Int32) M620 hG621 F622 (by decide) (by decide) (by omega) (by omega) (by omega) j_630 j_631
                  · refine to_an (pc := 8) rw_162_8 rfl (to_c (pc := 9) rw_162_9 (x := (1 : Int32)) rfl rfl (s_v (pc := 10) rw_162_10 (dp1 hd (by decide)) (ls0 := [.ref 77, .int (1 : Int32)]) rfl (Nat.le_of_ble_eq_true rfl) (Nat.le_of_ble_eq_true rfl) rfl (to_rc rfl rfl rfl (g_o hG147 rfl)) rfl (to_an (pc := 0) rw_152_0 rfl (to_in (pc := 1) rw_152_1 rfl (s_pI (pc := 2) rw_152_2 hG147 rfl (fun M633 W632 => ?_))))))
                    have hG634 := g_wf hG147 W632 rfl rfl (by decide)
                    have F635 := FR.w F152 W632 (show 77 = 77 ∧ (4 = 4 ∨ 4 = 5 ∨ 7 ≤ 4 ∧ 4 ≤ 10 ∨ 14 ≤ 4 ∧ 4 ≤ 16 ∨ 4 = 25) ∨ 80 ≤ 77 ∧ 77 ≤ 84 ∧ 8 ≤ 4 ∨ 85 ≤ 77 ∧ 77 ≤ 87 ∧ 12 ≤ 4 by decide)
                    refine to_an (pc := 5) rw_152_5 rfl (to_an (pc := 6) rw_152_6 rfl ?_)
                    have c_636 : M633.2.1 77 10 = (M151.2.1 77 10) := (W_n W632 (by decide) rfl)
                    have b_637 := g_b hG147 (a := 77) (i := 10) (lo := 0) (hi := 500) rfl rfl
                    refine tt_gI (pc := 7) rw_152_7 (g_o hG634 rfl) (v := (M151.2.1 77 10)) c_636 (s_pI (pc := 10) rw_152_10 hG634 rfl (fun M639 W638 => ?_))
                    have hG640 := g_wf hG634 W638 rfl rfl (by decide)
                    have F641 := FR.w F635 W638 (show 77 = 77 ∧ (5 = 4 ∨ 5 = 5 ∨ 7 ≤ 5 ∧ 5 ≤ 10 ∨ 14 ≤ 5 ∧ 5 ≤ 16 ∨ 5 = 25) ∨ 80 ≤ 77 ∧ 77 ≤ 84 ∧ 8 ≤ 5 ∨ 85 ≤ 77 ∧ 77 ≤ 87 ∧ 12 ≤ 5 by decide)
                    refine to_c (pc := 13) rw_152_13 (x := (0 : Int32)) rfl rfl (s_r1 (pc := 14) rw_152_14 (A := 0) rfl (by decide) (s_r1 (pc := 13) rw_162_13 (A := 0) rfl (by decide) (b_ine_f (pc := 138) rw_170_138 (A := 0) rfl (by decide) (to_c (pc := 141) rw_170_141 (x := (0 : Int32)) rfl rfl (s_r1 (pc := 142) rw_170_142 (A := 0) rfl (by decide) ?_)))))
                    have k_642 : (0 : Int32).toInt = 0 := rfl
                    have c_643 : M639.2.1 77 7 = (M151.2.1 77 7) := (W_n W638 (by decide) (W_n W632 (by decide) rfl))
                    have t_644 : (M639.2.1 77 7).toInt = (M151.2.1 77 7).toInt := congrArg Int32.toInt c_643
                    have c_645 : M639.2.1 77 6 = (M.2.1 77 6) := (W_n W638 (by decide) (W_n W632 (by decide) c_154))
                    have t_646 : (M639.2.1 77 6).toInt = (M.2.1 77 6).toInt := congrArg Int32.toInt c_645
                    have c_647 : M639.2.1 77 8 = (M151.2.1 77 8) := (W_n W638 (by decide) (W_n W632 (by decide) rfl))
                    have t_648 : (M639.2.1 77 8).toInt = (M151.2.1 77 8).toInt := congrArg Int32.toInt c_647
                    have j_649 := (FA_f (fun a i z => W_n W638 (tg_231 a i z) rfl) (FA_f (fun a i z => W_n W632 (tg_232 a i z) rfl) (FA_f (tg_220 F146) (FA_f (tg_220 F92) (FA_f (tg_221 F77) (FA_f (tg_220 F65) q2))))))
                    have j_650 := (WR_f (fun a i z => W_n W638 (by /-r77,5-/ omega) rfl) (WR_f (fun a i z => W_n W632 (by /-r77,4-/ omega) rfl) (WR_f (tg_222 F146) (WR_f (tg_222 F92) (WR_f (tg_223 F77) (WR_f (tg_222 F65) q3))))))
                    exact h (0 : Int32) M639 hG640 F641 (by decide) (by decide) (by omega) (by omega) (by omega) j_649 j_650
              · refine to_c (pc := 96) rw_170_96 (x := (1 : Int32)) rfl rfl (to_go (pc := 97) rw_170_97 (to_is (pc := 101) rw_170_101 (ls2 := [.ref 77, .int v85, .int (M70.2.1 77 9), .int v144, .int (1 : Int32), .null, .null, .null, .null]) rfl rfl (to_in (pc := 103) rw_170_103 rfl (to_c (pc := 104) rw_170_104 (x := (1 : Int32)) rfl rfl (b_cne_t (pc := 105) rw_170_105 (A := v144.toInt) (B := 1) rfl rfl (by omega) (to_in (pc := 112) rw_170_112 rfl (to_c (pc := 113) rw_170_113 (x := (2 : Int32)) rfl rfl (b_cne_t (pc := 114) rw_170_114 (A := v144.toInt) (B := 2) rfl rfl (by omega) (to_c (pc := 121) rw_170_121 (x := (0 : Int32)) rfl rfl (to_is (pc := 122) rw_170_122 (ls2 := [.ref 77, .int v85, .int (M70.2.1 77 9), .int v144, .int (1 : Int32), .int (0 : Int32), .null, .null, .null]) rfl rfl (to_an (pc := 124) rw_170_124 rfl ?_)))))))))))
                refine to_c (pc := 125) rw_170_125 (x := (0 : Int32)) rfl rfl (to_an (pc := 126) rw_170_126 rfl ?_)
                have c_651 : M151.2.1 77 14 = (M.2.1 77 14) := (F_n F146 (show ¬ (77 = 77 ∧ 7 ≤ 14 ∧ 14 ≤ 10) by decide) (F_n F92 (show ¬ (77 = 77 ∧ 7 ≤ 14 ∧ 14 ≤ 10) by decide) (F_n F77 (show ¬ (77 = 77 ∧ (14 = 4 ∨ 14 = 5)) by decide) (F_n F65 (show ¬ (77 = 77 ∧ 7 ≤ 14 ∧ 14 ≤ 10) by decide) rfl))))
                have b_652 := g_b hG (a := 77) (i := 14) (lo := 10) (hi := 60) rfl rfl
                refine tt_gI (pc := 127) rw_170_127 (g_o hG147 rfl) (v := (M.2.1 77 14)) c_651 (to_c (pc := 130) rw_170_130 (x := (1 : Int32)) rfl rfl (s_sub (pc := 131) rw_170_131 (A := (M.2.1 77 14).toInt) (B := 1) rfl rfl (by omega) (fun v653 e654 => to_i (pc := 132) rw_170_132 rfl (s_sub (pc := 134) rw_170_134 (A := v653.toInt) (B := 0) rfl rfl (by omega) (fun v655 e656 => s_v (pc := 135) rw_170_135 (dp0 hd (by decide)) (ls0 := [.ref 77, .int (0 : Int32), .int v655]) rfl (Nat.le_of_ble_eq_true rfl) (Nat.le_of_ble_eq_true rfl) rfl (to_rc rfl rfl rfl (g_o hG147 rfl)) rfl (to_an (pc := 0) rw_162_0 rfl (tt_gI (pc := 1) rw_162_1 (g_o hG147 rfl) (v := (M151.2.1 77 8)) rfl (to_c (pc := 4) rw_162_4 (x := (3 : Int32)) rfl rfl (b_ceq (pc := 5) rw_162_5 (A := (M151.2.1 77 8).toInt) (B := 3) rfl rfl (fun h657 => ?_) (fun h657 => ?_))))))))))
                · refine to_an (pc := 14) rw_162_14 rfl (tt_gI (pc := 15) rw_162_15 (g_o hG147 rfl) (v := (M151.2.1 77 9)) rfl (to_in (pc := 18) rw_162_18 rfl (b_clt (pc := 19) rw_162_19 (A := (M151.2.1 77 9).toInt) (B := 0) rfl rfl (fun h658 => ?_) (fun h658 => ?_))))
                  · refine to_an (pc := 30) rw_162_30 rfl (to_c (pc := 31) rw_162_31 (x := (2 : Int32)) rfl rfl (s_v (pc := 32) rw_162_32 (dp1 hd (by decide)) (ls0 := [.ref 77, .int (2 : Int32)]) rfl (Nat.le_of_ble_eq_true rfl) (Nat.le_of_ble_eq_true rfl) rfl (to_rc rfl rfl rfl (g_o hG147 rfl)) rfl (to_an (pc := 0) rw_152_0 rfl (to_in (pc := 1) rw_152_1 rfl (s_pI (pc := 2) rw_152_2 hG147 rfl (fun M660 W659 => ?_))))))
                    have hG661 := g_wf hG147 W659 rfl rfl (by decide)
                    have F662 := FR.w F152 W659 (show 77 = 77 ∧ (4 = 4 ∨ 4 = 5 ∨ 7 ≤ 4 ∧ 4 ≤ 10 ∨ 14 ≤ 4 ∧ 4 ≤ 16 ∨ 4 = 25) ∨ 80 ≤ 77 ∧ 77 ≤ 84 ∧ 8 ≤ 4 ∨ 85 ≤ 77 ∧ 77 ≤ 87 ∧ 12 ≤ 4 by decide)
                    refine to_an (pc := 5) rw_152_5 rfl (to_an (pc := 6) rw_152_6 rfl ?_)
                    have c_663 : M660.2.1 77 10 = (M151.2.1 77 10) := (W_n W659 (by decide) rfl)
                    have b_664 := g_b hG147 (a := 77) (i := 10) (lo := 0) (hi := 500) rfl rfl
                    refine tt_gI (pc := 7) rw_152_7 (g_o hG661 rfl) (v := (M151.2.1 77 10)) c_663 (s_pI (pc := 10) rw_152_10 hG661 rfl (fun M666 W665 => ?_))
                    have hG667 := g_wf hG661 W665 rfl rfl (by decide)
                    have F668 := FR.w F662 W665 (show 77 = 77 ∧ (5 = 4 ∨ 5 = 5 ∨ 7 ≤ 5 ∧ 5 ≤ 10 ∨ 14 ≤ 5 ∧ 5 ≤ 16 ∨ 5 = 25) ∨ 80 ≤ 77 ∧ 77 ≤ 84 ∧ 8 ≤ 5 ∨ 85 ≤ 77 ∧ 77 ≤ 87 ∧ 12 ≤ 5 by decide)
                    refine to_c (pc := 13) rw_152_13 (x := (0 : Int32)) rfl rfl (s_r1 (pc := 14) rw_152_14 (A := 0) rfl (by decide) (b_ieq_t (pc := 35) rw_162_35 (A := 0) rfl (by decide) (to_c (pc := 42) rw_162_42 (x := (0 : Int32)) rfl rfl (s_r1 (pc := 43) rw_162_43 (A := 0) rfl (by decide) (b_ine_f (pc := 138) rw_170_138 (A := 0) rfl (by decide) (to_c (pc := 141) rw_170_141 (x := (0 : Int32)) rfl rfl (s_r1 (pc := 142) rw_170_142 (A := 0) rfl (by decide) ?_)))))))
                    have k_669 : (0 : Int32).toInt = 0 := rfl
                    have c_670 : M666.2.1 77 7 = (M151.2.1 77 7) := (W_n W665 (by decide) (W_n W659 (by decide) rfl))
                    have t_671 : (M666.2.1 77 7).toInt = (M151.2.1 77 7).toInt := congrArg Int32.toInt c_670
                    have c_672 : M666.2.1 77 6 = (M.2.1 77 6) := (W_n W665 (by decide) (W_n W659 (by decide) c_154))
                    have t_673 : (M666.2.1 77 6).toInt = (M.2.1 77 6).toInt := congrArg Int32.toInt c_672
                    have c_674 : M666.2.1 77 8 = (M151.2.1 77 8) := (W_n W665 (by decide) (W_n W659 (by decide) rfl))
                    have t_675 : (M666.2.1 77 8).toInt = (M151.2.1 77 8).toInt := congrArg Int32.toInt c_674
                    have j_676 := (FA_f (fun a i z => W_n W665 (tg_231 a i z) rfl) (FA_f (fun a i z => W_n W659 (tg_232 a i z) rfl) (FA_f (tg_220 F146) (FA_f (tg_220 F92) (FA_f (tg_221 F77) (FA_f (tg_220 F65) q2))))))
                    have j_677 := (WR_f (fun a i z => W_n W665 (by /-r77,5-/ omega) rfl) (WR_f (fun a i z => W_n W659 (by /-r77,4-/ omega) rfl) (WR_f (tg_222 F146) (WR_f (tg_222 F92) (WR_f (tg_223 F77) (WR_f (tg_222 F65) q3))))))
                    exact h (0 : Int32) M666 hG667 F668 (by decide) (by decide) (by omega) (by omega) (by omega) j_676 j_677
                  · refine to_an (pc := 22) rw_162_22 rfl (tt_gI (pc := 23) rw_162_23 (g_o hG147 rfl) (v := (M151.2.1 77 9)) rfl (to_in (pc := 26) rw_162_26 rfl (b_cle (pc := 27) rw_162_27 (A := (M151.2.1 77 9).toInt) (B := v655.toInt) rfl rfl (fun h678 => ?_) (fun h678 => ?_))))
                    · refine to_c (pc := 38) rw_162_38 (x := (1 : Int32)) rfl rfl (to_go (pc := 39) rw_162_39 (s_r1 (pc := 43) rw_162_43 (A := 1) rfl (by decide) (b_ine_t (pc := 138) rw_170_138 (A := 1) rfl (by decide) (to_an (pc := 143) rw_170_143 rfl (tt_gI (pc := 144) rw_170_144 (g_o hG147 rfl) (v := (M151.2.1 77 9)) rfl (to_is (pc := 147) rw_170_147 (ls2 := [.ref 77, .int v85, .int (M70.2.1 77 9), .int v144, .int (1 : Int32), .int (0 : Int32), .int (M151.2.1 77 9), .null, .null]) rfl rfl (to_an (pc := 149) rw_170_149 rfl (s_gJ (pc := 150) rw_170_150 hG147 rfl (fun l679 => to_i (pc := 153) rw_170_153 rfl (to_i (pc := 155) rw_170_155 rfl (to_i (pc := 157) rw_170_157 rfl ?_)))))))))))
                      refine s_add (pc := 159) rw_170_159 (A := (M151.2.1 77 9).toInt) (B := 0) rfl rfl (by omega) (fun v680 e681 => s_s (pc := 160) rw_170_160 (dp0 hd (by decide)) (ls0 := [.int (M151.2.1 77 9), .int v680, .null, .null, .null]) rfl (Nat.le_of_ble_eq_true rfl) (Nat.le_of_ble_eq_true rfl) rfl (to_rcs rfl rfl) rfl (C_168 hX (dp1 hd (by decide)) hG147 (by omega) (by omega) (by omega) (a := (M151.2.1 77 9)) (b := v680) (fun r682 M685 hG684 F683 => ?_)))
                      have F686 := FR.c F152 F683 tg_227
                      refine s_anyL (pc := 163) rw_170_163 (fun _ _ => rfl) (fun l687 => s_cl (pc := 164) rw_170_164 rfl (fun l688 => s_lcmp (pc := 165) rw_170_165 (fun v689 => b_ieq (pc := 166) rw_170_166 (A := v689.toInt) rfl (fun h690 => ?_) (fun h690 => ?_))))
                      · refine to_an (pc := 175) rw_170_175 rfl (s_v (pc := 176) rw_170_176 (dp0 hd (by decide)) (ls0 := [.ref 77]) rfl (Nat.le_of_ble_eq_true rfl) (Nat.le_of_ble_eq_true rfl) rfl (to_rc rfl rfl rfl (g_o hG684 rfl)) rfl ?_)
                        have c_691 : M685.2.1 77 7 = (M151.2.1 77 7) := (F_n F683 (show ¬ (77 < 0) by decide) rfl)
                        have t_692 : (M685.2.1 77 7).toInt = (M151.2.1 77 7).toInt := congrArg Int32.toInt c_691
                        have c_693 : M685.2.1 77 6 = (M.2.1 77 6) := (F_n F683 (show ¬ (77 < 0) by decide) c_154)
                        have t_694 : (M685.2.1 77 6).toInt = (M.2.1 77 6).toInt := congrArg Int32.toInt c_693
                        refine C_156 hX (dp1 hd (by decide)) hG684 (by omega)  (fun M700 hG696 F695 p_697 p_698 p_699 => ?_)
                        have F701 := FR.c F686 F695 tg_79
                        have b_702 := g_b hG696 (a := 77) (i := 7) (lo := 0) (hi := 500) rfl rfl
                        have c_703 : M700.2.1 77 6 = (M.2.1 77 6) := (F_n F695 (show ¬ (77 = 77 ∧ 7 ≤ 6 ∧ 6 ≤ 10) by decide) c_693)
                        have t_704 : (M700.2.1 77 6).toInt = (M.2.1 77 6).toInt := congrArg Int32.toInt c_703
                        have b_705 := g_b hG696 (a := 77) (i := 8) (lo := 0) (hi := 5) rfl rfl
                        refine to_i (pc := 179) rw_170_179 rfl (to_i (pc := 181) rw_170_181 rfl (s_add (pc := 183) rw_170_183 (A := (M151.2.1 77 9).toInt) (B := 0) rfl rfl (by omega) (fun v706 e707 => to_is (pc := 184) rw_170_184 (ls2 := [.ref 77, .int v85, .int (M70.2.1 77 9), .int v144, .int (1 : Int32), .int (0 : Int32), .int (M151.2.1 77 9), .int v706, .null]) rfl rfl (to_c (pc := 186) rw_170_186 (x := (10 : Int32)) rfl rfl (to_is (pc := 188) rw_170_188 (ls2 := [.ref 77, .int v85, .int (M70.2.1 77 9), .int v144, .int (1 : Int32), .int (0 : Int32), .int (M151.2.1 77 9), .int v706, .int (10 : Int32)]) rfl rfl (to_i (pc := 190) rw_170_190 rfl (b_ieq_f (pc := 192) rw_170_192 (A := 1) rfl (by decide) (to_an (pc := 195) rw_170_195 rfl (to_in (pc := 196) rw_170_196 rfl (b_ine_t (pc := 197) rw_170_197 (A := v144.toInt) rfl (by omega) (to_i (pc := 207) rw_170_207 rfl ?_)))))))))))
                        refine to_an (pc := 209) rw_170_209 rfl ?_
                        have c_708 : M700.2.1 77 14 = (M.2.1 77 14) := (F_n F695 (show ¬ (77 = 77 ∧ 7 ≤ 14 ∧ 14 ≤ 10) by decide) (F_n F683 (show ¬ (77 < 0) by decide) c_651))
                        refine tt_gI (pc := 210) rw_170_210 (g_o hG696 rfl) (v := (M.2.1 77 14)) c_708 (to_c (pc := 213) rw_170_213 (x := (1 : Int32)) rfl rfl (s_sub (pc := 214) rw_170_214 (A := (M.2.1 77 14).toInt) (B := 1) rfl rfl (by omega) (fun v709 e710 => s_v (pc := 215) rw_170_215 (dp0 hd (by decide)) (ls0 := [.ref 77, .int (M151.2.1 77 9), .int v709]) rfl (Nat.le_of_ble_eq_true rfl) (Nat.le_of_ble_eq_true rfl) rfl (to_rc rfl rfl rfl (g_o hG696 rfl)) rfl (to_an (pc := 0) rw_162_0 rfl (tt_gI (pc := 1) rw_162_1 (g_o hG696 rfl) (v := (M700.2.1 77 8)) rfl (to_c (pc := 4) rw_162_4 (x := (3 : Int32)) rfl rfl (b_ceq (pc := 5) rw_162_5 (A := (M700.2.1 77 8).toInt) (B := 3) rfl rfl (fun h711 => ?_) (fun h711 => ?_))))))))
                        · refine to_an (pc := 14) rw_162_14 rfl (tt_gI (pc := 15) rw_162_15 (g_o hG696 rfl) (v := (M700.2.1 77 9)) rfl (to_in (pc := 18) rw_162_18 rfl (b_clt (pc := 19) rw_162_19 (A := (M700.2.1 77 9).toInt) (B := (M151.2.1 77 9).toInt) rfl rfl (fun h712 => ?_) (fun h712 => ?_))))
                          · refine to_an (pc := 30) rw_162_30 rfl (to_c (pc := 31) rw_162_31 (x := (2 : Int32)) rfl rfl (s_v (pc := 32) rw_162_32 (dp1 hd (by decide)) (ls0 := [.ref 77, .int (2 : Int32)]) rfl (Nat.le_of_ble_eq_true rfl) (Nat.le_of_ble_eq_true rfl) rfl (to_rc rfl rfl rfl (g_o hG696 rfl)) rfl (to_an (pc := 0) rw_152_0 rfl (to_in (pc := 1) rw_152_1 rfl (s_pI (pc := 2) rw_152_2 hG696 rfl (fun M714 W713 => ?_))))))
                            have hG715 := g_wf hG696 W713 rfl rfl (by decide)
                            have F716 := FR.w F701 W713 (show 77 = 77 ∧ (4 = 4 ∨ 4 = 5 ∨ 7 ≤ 4 ∧ 4 ≤ 10 ∨ 14 ≤ 4 ∧ 4 ≤ 16 ∨ 4 = 25) ∨ 80 ≤ 77 ∧ 77 ≤ 84 ∧ 8 ≤ 4 ∨ 85 ≤ 77 ∧ 77 ≤ 87 ∧ 12 ≤ 4 by decide)
                            refine to_an (pc := 5) rw_152_5 rfl (to_an (pc := 6) rw_152_6 rfl ?_)
                            have c_717 : M714.2.1 77 10 = (M700.2.1 77 10) := (W_n W713 (by decide) rfl)
                            have b_718 := g_b hG696 (a := 77) (i := 10) (lo := 0) (hi := 500) rfl rfl
                            refine tt_gI (pc := 7) rw_152_7 (g_o hG715 rfl) (v := (M700.2.1 77 10)) c_717 (s_pI (pc := 10) rw_152_10 hG715 rfl (fun M720 W719 => ?_))
                            have hG721 := g_wf hG715 W719 rfl rfl (by decide)
                            have F722 := FR.w F716 W719 (show 77 = 77 ∧ (5 = 4 ∨ 5 = 5 ∨ 7 ≤ 5 ∧ 5 ≤ 10 ∨ 14 ≤ 5 ∧ 5 ≤ 16 ∨ 5 = 25) ∨ 80 ≤ 77 ∧ 77 ≤ 84 ∧ 8 ≤ 5 ∨ 85 ≤ 77 ∧ 77 ≤ 87 ∧ 12 ≤ 5 by decide)
                            refine to_c (pc := 13) rw_152_13 (x := (0 : Int32)) rfl rfl (s_r1 (pc := 14) rw_152_14 (A := 0) rfl (by decide) (b_ieq_t (pc := 35) rw_162_35 (A := 0) rfl (by decide) (to_c (pc := 42) rw_162_42 (x := (0 : Int32)) rfl rfl (s_r1 (pc := 43) rw_162_43 (A := 0) rfl (by decide) (b_ine_f (pc := 218) rw_170_218 (A := 0) rfl (by decide) (to_c (pc := 221) rw_170_221 (x := (0 : Int32)) rfl rfl (s_r1 (pc := 222) rw_170_222 (A := 0) rfl (by decide) ?_)))))))
                            have k_723 : (0 : Int32).toInt = 0 := rfl
                            have c_724 : M720.2.1 77 7 = (M700.2.1 77 7) := (W_n W719 (by decide) (W_n W713 (by decide) rfl))
                            have t_725 : (M720.2.1 77 7).toInt = (M700.2.1 77 7).toInt := congrArg Int32.toInt c_724
                            have c_726 : M720.2.1 77 6 = (M.2.1 77 6) := (W_n W719 (by decide) (W_n W713 (by decide) c_703))
                            have t_727 : (M720.2.1 77 6).toInt = (M.2.1 77 6).toInt := congrArg Int32.toInt c_726
                            have c_728 : M720.2.1 77 8 = (M700.2.1 77 8) := (W_n W719 (by decide) (W_n W713 (by decide) rfl))
                            have t_729 : (M720.2.1 77 8).toInt = (M700.2.1 77 8).toInt := congrArg Int32.toInt c_728
                            have j_730 := (FA_f (fun a i z => W_n W719 (tg_231 a i z) rfl) (FA_f (fun a i z => W_n W713 (tg_232 a i z) rfl) (FA_f (tg_220 F695) (FA_f (tg_218 F683) (FA_f (tg_220 F146) (FA_f (tg_220 F92) (FA_f (tg_221 F77) (FA_f (tg_220 F65) q2))))))))
                            have j_731 := (WR_f (fun a i z => W_n W719 (by /-r77,5-/ omega) rfl) (WR_f (fun a i z => W_n W713 (by /-r77,4-/ omega) rfl) (WR_f (tg_222 F695) (WR_f (tg_219 F683) (WR_f (tg_222 F146) (WR_f (tg_222 F92) (WR_f (tg_223 F77) (WR_f (tg_222 F65) q3))))))))
                            exact h (0 : Int32) M720 hG721 F722 (by decide) (by decide) (by omega) (by omega) (by omega) j_730 j_731
                          · refine to_an (pc := 22) rw_162_22 rfl (tt_gI (pc := 23) rw_162_23 (g_o hG696 rfl) (v := (M700.2.1 77 9)) rfl (to_in (pc := 26) rw_162_26 rfl (b_cle (pc := 27) rw_162_27 (A := (M700.2.1 77 9).toInt) (B := v709.toInt) rfl rfl (fun h732 => ?_) (fun h732 => ?_))))
                            · refine to_c (pc := 38) rw_162_38 (x := (1 : Int32)) rfl rfl (to_go (pc := 39) rw_162_39 (s_r1 (pc := 43) rw_162_43 (A := 1) rfl (by decide) (b_ine_t (pc := 218) rw_170_218 (A := 1) rfl (by decide) (to_an (pc := 223) rw_170_223 rfl (tt_gI (pc := 224) rw_170_224 (g_o hG696 rfl) (v := (M700.2.1 77 9)) rfl (to_is (pc := 227) rw_170_227 (ls2 := [.ref 77, .int v85, .int (M70.2.1 77 9), .int v144, .int (1 : Int32), .int (0 : Int32), .int (M151.2.1 77 9), .int (M700.2.1 77 9), .int (10 : Int32)]) rfl rfl (to_i (pc := 229) rw_170_229 rfl (to_i (pc := 231) rw_170_231 rfl (s_sub (pc := 233) rw_170_233 (A := (M700.2.1 77 9).toInt) (B := (M151.2.1 77 9).toInt) rfl rfl (by omega) (fun v733 e734 => to_c (pc := 234) rw_170_234 (x := (23 : Int32)) rfl rfl (b_cle (pc := 236) rw_170_236 (A := v733.toInt) (B := 23) rfl rfl (fun h735 => ?_) (fun h735 => ?_))))))))))))
                              · refine to_an (pc := 245) rw_170_245 rfl (s_gJ (pc := 246) rw_170_246 hG696 rfl (fun l736 => to_i (pc := 249) rw_170_249 rfl (to_i (pc := 251) rw_170_251 rfl (s_s (pc := 253) rw_170_253 (dp0 hd (by decide)) (ls0 := [.int (M151.2.1 77 9), .int (M700.2.1 77 9), .null, .null, .null]) rfl (Nat.le_of_ble_eq_true rfl) (Nat.le_of_ble_eq_true rfl) rfl (to_rcs rfl rfl) rfl (C_168 hX (dp1 hd (by decide)) hG696 (by omega) (by omega) (by omega) (a := (M151.2.1 77 9)) (b := (M700.2.1 77 9)) (fun r737 M740 hG739 F738 => ?_))))))
                                have F741 := FR.c F701 F738 tg_227
                                refine s_anyL (pc := 256) rw_170_256 (fun _ _ => rfl) (fun l742 => s_cl (pc := 257) rw_170_257 rfl (fun l743 => s_lcmp (pc := 258) rw_170_258 (fun v744 => b_ieq (pc := 259) rw_170_259 (A := v744.toInt) rfl (fun h745 => ?_) (fun h745 => ?_))))
                                · refine to_an (pc := 268) rw_170_268 rfl (s_v (pc := 269) rw_170_269 (dp0 hd (by decide)) (ls0 := [.ref 77]) rfl (Nat.le_of_ble_eq_true rfl) (Nat.le_of_ble_eq_true rfl) rfl (to_rc rfl rfl rfl (g_o hG739 rfl)) rfl ?_)
                                  have c_746 : M740.2.1 77 7 = (M700.2.1 77 7) := (F_n F738 (show ¬ (77 < 0) by decide) rfl)
                                  have t_747 : (M740.2.1 77 7).toInt = (M700.2.1 77 7).toInt := congrArg Int32.toInt c_746
                                  have c_748 : M740.2.1 77 6 = (M.2.1 77 6) := (F_n F738 (show ¬ (77 < 0) by decide) c_703)
                                  have t_749 : (M740.2.1 77 6).toInt = (M.2.1 77 6).toInt := congrArg Int32.toInt c_748
                                  refine C_156 hX (dp1 hd (by decide)) hG739 (by omega)  (fun M755 hG751 F750 p_752 p_753 p_754 => ?_)
                                  have F756 := FR.c F741 F750 tg_79
                                  have b_757 := g_b hG751 (a := 77) (i := 7) (lo := 0) (hi := 500) rfl rfl
                                  have c_758 : M755.2.1 77 6 = (M.2.1 77 6) := (F_n F750 (show ¬ (77 = 77 ∧ 7 ≤ 6 ∧ 6 ≤ 10) by decide) c_748)
                                  have t_759 : (M755.2.1 77 6).toInt = (M.2.1 77 6).toInt := congrArg Int32.toInt c_758
                                  have b_760 := g_b hG751 (a := 77) (i := 8) (lo := 0) (hi := 5) rfl rfl
                                  refine to_i (pc := 272) rw_170_272 rfl (to_i (pc := 274) rw_170_274 rfl (s_sub (pc := 276) rw_170_276 (A := (M700.2.1 77 9).toInt) (B := (M151.2.1 77 9).toInt) rfl rfl (by omega) (fun v761 e762 => to_c (pc := 277) rw_170_277 (x := (1 : Int32)) rfl rfl (s_add (pc := 278) rw_170_278 (A := v761.toInt) (B := 1) rfl rfl (by omega) (fun v763 e764 => to_is (pc := 279) rw_170_279 (ls2 := [.ref 77, .int v85, .int (M70.2.1 77 9), .int v144, .int (1 : Int32), .int (0 : Int32), .int (M151.2.1 77 9), .int (M700.2.1 77 9), .int v763]) rfl rfl (to_in (pc := 281) rw_170_281 rfl (to_c (pc := 282) rw_170_282 (x := (3 : Int32)) rfl rfl (b_cne_f (pc := 283) rw_170_283 (A := v144.toInt) (B := 3) rfl rfl (by omega) (to_an (pc := 286) rw_170_286 rfl (to_c (pc := 287) rw_170_287 (x := (1 : Int32)) rfl rfl (to_i (pc := 288) rw_170_288 rfl ?_)))))))))))
                                  refine to_c (pc := 290) rw_170_290 (x := (4 : Int32)) rfl rfl (b_cge (pc := 291) rw_170_291 (A := v763.toInt) (B := 4) rfl rfl (fun h765 => ?_) (fun h765 => ?_))
                                  · refine to_c (pc := 299) rw_170_299 (x := (4 : Int32)) rfl rfl (s_v (pc := 300) rw_170_300 (dp0 hd (by decide)) (ls0 := [.ref 77, .int (1 : Int32), .int (4 : Int32)]) rfl (Nat.le_of_ble_eq_true rfl) (Nat.le_of_ble_eq_true rfl) rfl (to_rc rfl rfl rfl (g_o hG751 rfl)) rfl (to_an (pc := 0) rw_162_0 rfl (tt_gI (pc := 1) rw_162_1 (g_o hG751 rfl) (v := (M755.2.1 77 8)) rfl (to_c (pc := 4) rw_162_4 (x := (3 : Int32)) rfl rfl (b_ceq (pc := 5) rw_162_5 (A := (M755.2.1 77 8).toInt) (B := 3) rfl rfl (fun h766 => ?_) (fun h766 => ?_))))))
                                    · refine to_an (pc := 14) rw_162_14 rfl (tt_gI (pc := 15) rw_162_15 (g_o hG751 rfl) (v := (M755.2.1 77 9)) rfl (to_in (pc := 18) rw_162_18 rfl (b_clt (pc := 19) rw_162_19 (A := (M755.2.1 77 9).toInt) (B := 1) rfl rfl (fun h767 => ?_) (fun h767 => ?_))))
                                      · refine to_an (pc := 30) rw_162_30 rfl (to_c (pc := 31) rw_162_31 (x := (2 : Int32)) rfl rfl (s_v (pc := 32) rw_162_32 (dp1 hd (by decide)) (ls0 := [.ref 77, .int (2 : Int32)]) rfl (Nat.le_of_ble_eq_true rfl) (Nat.le_of_ble_eq_true rfl) rfl (to_rc rfl rfl rfl (g_o hG751 rfl)) rfl (to_an (pc := 0) rw_152_0 rfl (to_in (pc := 1) rw_152_1 rfl (s_pI (pc := 2) rw_152_2 hG751 rfl (fun M769 W768 => ?_))))))
                                        have hG770 := g_wf hG751 W768 rfl rfl (by decide)
                                        have F771 := FR.w F756 W768 (show 77 = 77 ∧ (4 = 4 ∨ 4 = 5 ∨ 7 ≤ 4 ∧ 4 ≤ 10 ∨ 14 ≤ 4 ∧ 4 ≤ 16 ∨ 4 = 25) ∨ 80 ≤ 77 ∧ 77 ≤ 84 ∧ 8 ≤ 4 ∨ 85 ≤ 77 ∧ 77 ≤ 87 ∧ 12 ≤ 4 by decide)
                                        refine to_an (pc := 5) rw_152_5 rfl (to_an (pc := 6) rw_152_6 rfl ?_)
                                        have c_772 : M769.2.1 77 10 = (M755.2.1 77 10) := (W_n W768 (by decide) rfl)
                                        have b_773 := g_b hG751 (a := 77) (i := 10) (lo := 0) (hi := 500) rfl rfl
                                        refine tt_gI (pc := 7) rw_152_7 (g_o hG770 rfl) (v := (M755.2.1 77 10)) c_772 (s_pI (pc := 10) rw_152_10 hG770 rfl (fun M775 W774 => ?_))
                                        have hG776 := g_wf hG770 W774 rfl rfl (by decide)
                                        have F777 := FR.w F771 W774 (show 77 = 77 ∧ (5 = 4 ∨ 5 = 5 ∨ 7 ≤ 5 ∧ 5 ≤ 10 ∨ 14 ≤ 5 ∧ 5 ≤ 16 ∨ 5 = 25) ∨ 80 ≤ 77 ∧ 77 ≤ 84 ∧ 8 ≤ 5 ∨ 85 ≤ 77 ∧ 77 ≤ 87 ∧ 12 ≤ 5 by decide)
                                        refine to_c (pc := 13) rw_152_13 (x := (0 : Int32)) rfl rfl (s_r1 (pc := 14) rw_152_14 (A := 0) rfl (by decide) (b_ieq_t (pc := 35) rw_162_35 (A := 0) rfl (by decide) (to_c (pc := 42) rw_162_42 (x := (0 : Int32)) rfl rfl (s_r1 (pc := 43) rw_162_43 (A := 0) rfl (by decide) (b_ine_f (pc := 303) rw_170_303 (A := 0) rfl (by decide) (to_c (pc := 306) rw_170_306 (x := (0 : Int32)) rfl rfl (s_r1 (pc := 307) rw_170_307 (A := 0) rfl (by decide) ?_)))))))
                                        have k_778 : (0 : Int32).toInt = 0 := rfl
                                        have c_779 : M775.2.1 77 7 = (M755.2.1 77 7) := (W_n W774 (by decide) (W_n W768 (by decide) rfl))
                                        have t_780 : (M775.2.1 77 7).toInt = (M755.2.1 77 7).toInt := congrArg Int32.toInt c_779
                                        have c_781 : M775.2.1 77 6 = (M.2.1 77 6) := (W_n W774 (by decide) (W_n W768 (by decide) c_758))
                                        have t_782 : (M775.2.1 77 6).toInt = (M.2.1 77 6).toInt := congrArg Int32.toInt c_781
                                        have c_783 : M775.2.1 77 8 = (M755.2.1 77 8) := (W_n W774 (by decide) (W_n W768 (by decide) rfl))
                                        have t_784 : (M775.2.1 77 8).toInt = (M755.2.1 77 8).toInt := congrArg Int32.toInt c_783
                                        have j_785 := (FA_f (fun a i z => W_n W774 (tg_231 a i z) rfl) (FA_f (fun a i z => W_n W768 (tg_232 a i z) rfl) (FA_f (tg_220 F750) (FA_f (tg_218 F738) (FA_f (tg_220 F695) (FA_f (tg_218 F683) (FA_f (tg_220 F146) (FA_f (tg_220 F92) (FA_f (tg_221 F77) (FA_f (tg_220 F65) q2))))))))))
                                        have j_786 := (WR_f (fun a i z => W_n W774 (by /-r77,5-/ omega) rfl) (WR_f (fun a i z => W_n W768 (by /-r77,4-/ omega) rfl) (WR_f (tg_222 F750) (WR_f (tg_219 F738) (WR_f (tg_222 F695) (WR_f (tg_219 F683) (WR_f (tg_222 F146) (WR_f (tg_222 F92) (WR_f (tg_223 F77) (WR_f (tg_222 F65) q3))))))))))
                                        exact h (0 : Int32) M775 hG776 F777 (by decide) (by decide) (by omega) (by omega) (by omega) j_785 j_786
                                      · refine to_an (pc := 22) rw_162_22 rfl (tt_gI (pc := 23) rw_162_23 (g_o hG751 rfl) (v := (M755.2.1 77 9)) rfl (to_in (pc := 26) rw_162_26 rfl (b_cle (pc := 27) rw_162_27 (A := (M755.2.1 77 9).toInt) (B := 4) rfl rfl (fun h787 => ?_) (fun h787 => ?_))))
                                        · refine to_c (pc := 38) rw_162_38 (x := (1 : Int32)) rfl rfl (to_go (pc := 39) rw_162_39 (s_r1 (pc := 43) rw_162_43 (A := 1) rfl (by decide) (b_ine_t (pc := 303) rw_170_303 (A := 1) rfl (by decide) (to_an (pc := 308) rw_170_308 rfl (tt_gI (pc := 309) rw_170_309 (g_o hG751 rfl) (v := (M755.2.1 77 9)) rfl (to_is (pc := 312) rw_170_312 (ls2 := [.ref 77, .int v85, .int (M70.2.1 77 9), .int v144, .int (1 : Int32), .int (0 : Int32), .int (M151.2.1 77 9), .int (M700.2.1 77 9), .int (M755.2.1 77 9)]) rfl rfl (to_an (pc := 314) rw_170_314 rfl (s_v (pc := 315) rw_170_315 (dp0 hd (by decide)) (ls0 := [.ref 77]) rfl (Nat.le_of_ble_eq_true rfl) (Nat.le_of_ble_eq_true rfl) rfl (to_rc rfl rfl rfl (g_o hG751 rfl)) rfl (C_156 hX (dp1 hd (by decide)) hG751 (by omega)  (fun M793 hG789 F788 p_790 p_791 p_792 => ?_))))))))))
                                          have F794 := FR.c F756 F788 tg_79
                                          have b_795 := g_b hG789 (a := 77) (i := 7) (lo := 0) (hi := 500) rfl rfl
                                          have c_796 : M793.2.1 77 6 = (M.2.1 77 6) := (F_n F788 (show ¬ (77 = 77 ∧ 7 ≤ 6 ∧ 6 ≤ 10) by decide) c_758)
                                          have t_797 : (M793.2.1 77 6).toInt = (M.2.1 77 6).toInt := congrArg Int32.toInt c_796
                                          have b_798 := g_b hG789 (a := 77) (i := 8) (lo := 0) (hi := 5) rfl rfl
                                          have c_799 : M793.2.1 77 15 = (M.2.1 77 15) := (F_n F788 (show ¬ (77 = 77 ∧ 7 ≤ 15 ∧ 15 ≤ 10) by decide) (F_n F750 (show ¬ (77 = 77 ∧ 7 ≤ 15 ∧ 15 ≤ 10) by decide) (F_n F738 (show ¬ (77 < 0) by decide) (F_n F695 (show ¬ (77 = 77 ∧ 7 ≤ 15 ∧ 15 ≤ 10) by decide) (F_n F683 (show ¬ (77 < 0) by decide) (F_n F146 (show ¬ (77 = 77 ∧ 7 ≤ 15 ∧ 15 ≤ 10) by decide) (F_n F92 (show ¬ (77 = 77 ∧ 7 ≤ 15 ∧ 15 ≤ 10) by decide) c_84)))))))
                                          have t_800 : (M793.2.1 77 15).toInt = (M.2.1 77 15).toInt := congrArg Int32.toInt c_799
                                          have j_801 := (FA_f (tg_220 F788) (FA_f (tg_220 F750) (FA_f (tg_218 F738) (FA_f (tg_220 F695) (FA_f (tg_218 F683) (FA_f (tg_220 F146) (FA_f (tg_220 F92) (FA_f (tg_221 F77) (FA_f (tg_220 F65) q2)))))))))
                                          have j_802 := (WR_f (tg_222 F788) (WR_f (tg_222 F750) (WR_f (tg_219 F738) (WR_f (tg_222 F695) (WR_f (tg_219 F683) (WR_f (tg_222 F146) (WR_f (tg_222 F92) (WR_f (tg_223 F77) (WR_f (tg_222 F65) q3)))))))))
                                          exact (T_170_0 hX hd q1 q2 q3 h (((0 : Int)).toNat + 1)) M793 v85 (M70.2.1 77 9) v144 (.int (1 : Int32)) (.int (0 : Int32)) (M151.2.1 77 9) (M700.2.1 77 9) (M755.2.1 77 9) hG789 F794 (by omega) (by omega) (by omega) (by omega) (by omega) (by omega) (by omega) (by omega) (by omega) (by omega) (by omega) (by omega) (by omega) (by omega) (by omega) j_801 j_802 (by omega)
                                        · refine to_an (pc := 30) rw_162_30 rfl (to_c (pc := 31) rw_162_31 (x := (2 : Int32)) rfl rfl (s_v (pc := 32) rw_162_32 (dp1 hd (by decide)) (ls0 := [.ref 77, .int (2 : Int32)]) rfl (Nat.le_of_ble_eq_true rfl) (Nat.le_of_ble_eq_true rfl) rfl (to_rc rfl rfl rfl (g_o hG751 rfl)) rfl (to_an (pc := 0) rw_152_0 rfl (to_in (pc := 1) rw_152_1 rfl (s_pI (pc := 2) rw_152_2 hG751 rfl (fun M804 W803 => ?_))))))
                                          have hG805 := g_wf hG751 W803 rfl rfl (by decide)
                                          have F806 := FR.w F756 W803 (show 77 = 77 ∧ (4 = 4 ∨ 4 = 5 ∨ 7 ≤ 4 ∧ 4 ≤ 10 ∨ 14 ≤ 4 ∧ 4 ≤ 16 ∨ 4 = 25) ∨ 80 ≤ 77 ∧ 77 ≤ 84 ∧ 8 ≤ 4 ∨ 85 ≤ 77 ∧ 77 ≤ 87 ∧ 12 ≤ 4 by decide)
                                          refine to_an (pc := 5) rw_152_5 rfl (to_an (pc := 6) rw_152_6 rfl ?_)
                                          have c_807 : M804.2.1 77 10 = (M755.2.1 77 10) := (W_n W803 (by decide) rfl)
                                          have b_808 := g_b hG751 (a := 77) (i := 10) (lo := 0) (hi := 500) rfl rfl
                                          refine tt_gI (pc := 7) rw_152_7 (g_o hG805 rfl) (v := (M755.2.1 77 10)) c_807 (s_pI (pc := 10) rw_152_10 hG805 rfl (fun M810 W809 => ?_))
                                          have hG811 := g_wf hG805 W809 rfl rfl (by decide)
                                          have F812 := FR.w F806 W809 (show 77 = 77 ∧ (5 = 4 ∨ 5 = 5 ∨ 7 ≤ 5 ∧ 5 ≤ 10 ∨ 14 ≤ 5 ∧ 5 ≤ 16 ∨ 5 = 25) ∨ 80 ≤ 77 ∧ 77 ≤ 84 ∧ 8 ≤ 5 ∨ 85 ≤ 77 ∧ 77 ≤ 87 ∧ 12 ≤ 5 by decide)
                                          refine to_c (pc := 13) rw_152_13 (x := (0 : Int32)) rfl rfl (s_r1 (pc := 14) rw_152_14 (A := 0) rfl (by decide) (b_ieq_t (pc := 35) rw_162_35 (A := 0) rfl (by decide) (to_c (pc := 42) rw_162_42 (x := (0 : Int32)) rfl rfl (s_r1 (pc := 43) rw_162_43 (A := 0) rfl (by decide) (b_ine_f (pc := 303) rw_170_303 (A := 0) rfl (by decide) (to_c (pc := 306) rw_170_306 (x := (0 : Int32)) rfl rfl (s_r1 (pc := 307) rw_170_307 (A := 0) rfl (by decide) ?_)))))))
                                          have k_813 : (0 : Int32).toInt = 0 := rfl
                                          have c_814 : M810.2.1 77 7 = (M755.2.1 77 7) := (W_n W809 (by decide) (W_n W803 (by decide) rfl))
                                          have t_815 : (M810.2.1 77 7).toInt = (M755.2.1 77 7).toInt := congrArg Int32.toInt c_814
                                          have c_816 : M810.2.1 77 6 = (M.2.1 77 6) := (W_n W809 (by decide) (W_n W803 (by decide) c_758))
                                          have t_817 : (M810.2.1 77 6).toInt = (M.2.1 77 6).toInt := congrArg Int32.toInt c_816
                                          have c_818 : M810.2.1 77 8 = (M755.2.1 77 8) := (W_n W809 (by decide) (W_n W803 (by decide) rfl))
                                          have t_819 : (M810.2.1 77 8).toInt = (M755.2.1 77 8).toInt := congrArg Int32.toInt c_818
                                          have j_820 := (FA_f (fun a i z => W_n W809 (tg_231 a i z) rfl) (FA_f (fun a i z => W_n W803 (tg_232 a i z) rfl) (FA_f (tg_220 F750) (FA_f (tg_218 F738) (FA_f (tg_220 F695) (FA_f (tg_218 F683) (FA_f (tg_220 F146) (FA_f (tg_220 F92) (FA_f (tg_221 F77) (FA_f (tg_220 F65) q2))))))))))
                                          have j_821 := (WR_f (fun a i z => W_n W809 (by /-r77,5-/ omega) rfl) (WR_f (fun a i z => W_n W803 (by /-r77,4-/ omega) rfl) (WR_f (tg_222 F750) (WR_f (tg_219 F738) (WR_f (tg_222 F695) (WR_f (tg_219 F683) (WR_f (tg_222 F146) (WR_f (tg_222 F92) (WR_f (tg_223 F77) (WR_f (tg_222 F65) q3))))))))))
                                          exact h (0 : Int32) M810 hG811 F812 (by decide) (by decide) (by omega) (by omega) (by omega) j_820 j_821
                                    · refine to_an (pc := 8) rw_162_8 rfl (to_c (pc := 9) rw_162_9 (x := (1 : Int32)) rfl rfl (s_v (pc := 10) rw_162_10 (dp1 hd (by decide)) (ls0 := [.ref 77, .int (1 : Int32)]) rfl (Nat.le_of_ble_eq_true rfl) (Nat.le_of_ble_eq_true rfl) rfl (to_rc rfl rfl rfl (g_o hG751 rfl)) rfl (to_an (pc := 0) rw_152_0 rfl (to_in (pc := 1) rw_152_1 rfl (s_pI (pc := 2) rw_152_2 hG751 rfl (fun M823 W822 => ?_))))))
                                      have hG824 := g_wf hG751 W822 rfl rfl (by decide)
                                      have F825 := FR.w F756 W822 (show 77 = 77 ∧ (4 = 4 ∨ 4 = 5 ∨ 7 ≤ 4 ∧ 4 ≤ 10 ∨ 14 ≤ 4 ∧ 4 ≤ 16 ∨ 4 = 25) ∨ 80 ≤ 77 ∧ 77 ≤ 84 ∧ 8 ≤ 4 ∨ 85 ≤ 77 ∧ 77 ≤ 87 ∧ 12 ≤ 4 by decide)
                                      refine to_an (pc := 5) rw_152_5 rfl (to_an (pc := 6) rw_152_6 rfl ?_)
                                      have c_826 : M823.2.1 77 10 = (M755.2.1 77 10) := (W_n W822 (by decide) rfl)
                                      have b_827 := g_b hG751 (a := 77) (i := 10) (lo := 0) (hi := 500) rfl rfl
                                      refine tt_gI (pc := 7) rw_152_7 (g_o hG824 rfl) (v := (M755.2.1 77 10)) c_826 (s_pI (pc := 10) rw_152_10 hG824 rfl (fun M829 W828 => ?_))
                                      have hG830 := g_wf hG824 W828 rfl rfl (by decide)
                                      have F831 := FR.w F825 W828 (show 77 = 77 ∧ (5 = 4 ∨ 5 = 5 ∨ 7 ≤ 5 ∧ 5 ≤ 10 ∨ 14 ≤ 5 ∧ 5 ≤ 16 ∨ 5 = 25) ∨ 80 ≤ 77 ∧ 77 ≤ 84 ∧ 8 ≤ 5 ∨ 85 ≤ 77 ∧ 77 ≤ 87 ∧ 12 ≤ 5 by decide)
                                      refine to_c (pc := 13) rw_152_13 (x := (0 : Int32)) rfl rfl (s_r1 (pc := 14) rw_152_14 (A := 0) rfl (by decide) (s_r1 (pc := 13) rw_162_13 (A := 0) rfl (by decide) (b_ine_f (pc := 303) rw_170_303 (A := 0) rfl (by decide) (to_c (pc := 306) rw_170_306 (x := (0 : Int32)) rfl rfl (s_r1 (pc := 307) rw_170_307 (A := 0) rfl (by decide) ?_)))))
                                      have k_832 : (0 : Int32).toInt = 0 := rfl
                                      have c_833 : M829.2.1 77 7 = (M755.2.1 77 7) := (W_n W828 (by decide) (W_n W822 (by decide) rfl))
                                      have t_834 : (M829.2.1 77 7).toInt = (M755.2.1 77 7).toInt := congrArg Int32.toInt c_833
                                      have c_835 : M829.2.1 77 6 = (M.2.1 77 6) := (W_n W828 (by decide) (W_n W822 (by decide) c_758))
                                      have t_836 : (M829.2.1 77 6).toInt = (M.2.1 77 6).toInt := congrArg Int32.toInt c_835
                                      have c_837 : M829.2.1 77 8 = (M755.2.1 77 8) := (W_n W828 (by decide) (W_n W822 (by decide) rfl))
                                      have t_838 : (M829.2.1 77 8).toInt = (M755.2.1 77 8).toInt := congrArg Int32.toInt c_837
                                      have j_839 := (FA_f (fun a i z => W_n W828 (tg_231 a i z) rfl) (FA_f (fun a i z => W_n W822 (tg_232 a i z) rfl) (FA_f (tg_220 F750) (FA_f (tg_218 F738) (FA_f (tg_220 F695) (FA_f (tg_218 F683) (FA_f (tg_220 F146) (FA_f (tg_220 F92) (FA_f (tg_221 F77) (FA_f (tg_220 F65) q2))))))))))
                                      have j_840 := (WR_f (fun a i z => W_n W828 (by /-r77,5-/ omega) rfl) (WR_f (fun a i z => W_n W822 (by /-r77,4-/ omega) rfl) (WR_f (tg_222 F750) (WR_f (tg_219 F738) (WR_f (tg_222 F695) (WR_f (tg_219 F683) (WR_f (tg_222 F146) (WR_f (tg_222 F92) (WR_f (tg_223 F77) (WR_f (tg_222 F65) q3))))))))))
                                      exact h (0 : Int32) M829 hG830 F831 (by decide) (by decide) (by omega) (by omega) (by omega) j_839 j_840
                                  · refine to_i (pc := 294) rw_170_294 rfl (to_go (pc := 296) rw_170_296 (s_v (pc := 300) rw_170_300 (dp0 hd (by decide)) (ls0 := [.ref 77, .int (1 : Int32), .int v763]) rfl (Nat.le_of_ble_eq_true rfl) (Nat.le_of_ble_eq_true rfl) rfl (to_rc rfl rfl rfl (g_o hG751 rfl)) rfl (to_an (pc := 0) rw_162_0 rfl (tt_gI (pc := 1) rw_162_1 (g_o hG751 rfl) (v := (M755.2.1 77 8)) rfl (to_c (pc := 4) rw_162_4 (x := (3 : Int32)) rfl rfl (b_ceq (pc := 5) rw_162_5 (A := (M755.2.1 77 8).toInt) (B := 3) rfl rfl (fun h841 => ?_) (fun h841 => ?_)))))))
                                    · refine to_an (pc := 14) rw_162_14 rfl (tt_gI (pc := 15) rw_162_15 (g_o hG751 rfl) (v := (M755.2.1 77 9)) rfl (to_in (pc := 18) rw_162_18 rfl (b_clt (pc := 19) rw_162_19 (A := (M755.2.1 77 9).toInt) (B := 1) rfl rfl (fun h842 => ?_) (fun h842 => ?_))))
                                      · refine to_an (pc := 30) rw_162_30 rfl (to_c (pc := 31) rw_162_31 (x := (2 : Int32)) rfl rfl (s_v (pc := 32) rw_162_32 (dp1 hd (by decide)) (ls0 := [.ref 77, .int (2 : Int32)]) rfl (Nat.le_of_ble_eq_true rfl) (Nat.le_of_ble_eq_true rfl) rfl (to_rc rfl rfl rfl (g_o hG751 rfl)) rfl (to_an (pc := 0) rw_152_0 rfl (to_in (pc := 1) rw_152_1 rfl (s_pI (pc := 2) rw_152_2 hG751 rfl (fun M844 W843 => ?_))))))
                                        have hG845 := g_wf hG751 W843 rfl rfl (by decide)
                                        have F846 := FR.w F756 W843 (show 77 = 77 ∧ (4 = 4 ∨ 4 = 5 ∨ 7 ≤ 4 ∧ 4 ≤ 10 ∨ 14 ≤ 4 ∧ 4 ≤ 16 ∨ 4 = 25) ∨ 80 ≤ 77 ∧ 77 ≤ 84 ∧ 8 ≤ 4 ∨ 85 ≤ 77 ∧ 77 ≤ 87 ∧ 12 ≤ 4 by decide)
                                        refine to_an (pc := 5) rw_152_5 rfl (to_an (pc := 6) rw_152_6 rfl ?_)
                                        have c_847 : M844.2.1 77 10 = (M755.2.1 77 10) := (W_n W843 (by decide) rfl)
                                        have b_848 := g_b hG751 (a := 77) (i := 10) (lo := 0) (hi := 500) rfl rfl
                                        refine tt_gI (pc := 7) rw_152_7 (g_o hG845 rfl) (v := (M755.2.1 77 10)) c_847 (s_pI (pc := 10) rw_152_10 hG845 rfl (fun M850 W849 => ?_))
                                        have hG851 := g_wf hG845 W849 rfl rfl (by decide)
                                        have F852 := FR.w F846 W849 (show 77 = 77 ∧ (5 = 4 ∨ 5 = 5 ∨ 7 ≤ 5 ∧ 5 ≤ 10 ∨ 14 ≤ 5 ∧ 5 ≤ 16 ∨ 5 = 25) ∨ 80 ≤ 77 ∧ 77 ≤ 84 ∧ 8 ≤ 5 ∨ 85 ≤ 77 ∧ 77 ≤ 87 ∧ 12 ≤ 5 by decide)
                                        refine to_c (pc := 13) rw_152_13 (x := (0 : Int32)) rfl rfl (s_r1 (pc := 14) rw_152_14 (A := 0) rfl (by decide) (b_ieq_t (pc := 35) rw_162_35 (A := 0) rfl (by decide) (to_c (pc := 42) rw_162_42 (x := (0 : Int32)) rfl rfl (s_r1 (pc := 43) rw_162_43 (A := 0) rfl (by decide) (b_ine_f (pc := 303) rw_170_303 (A := 0) rfl (by decide) (to_c (pc := 306) rw_170_306 (x := (0 : Int32)) rfl rfl (s_r1 (pc := 307) rw_170_307 (A := 0) rfl (by decide) ?_)))))))
                                        have k_853 : (0 : Int32).toInt = 0 := rfl
                                        have c_854 : M850.2.1 77 7 = (M755.2.1 77 7) := (W_n W849 (by decide) (W_n W843 (by decide) rfl))
                                        have t_855 : (M850.2.1 77 7).toInt = (M755.2.1 77 7).toInt := congrArg Int32.toInt c_854
                                        have c_856 : M850.2.1 77 6 = (M.2.1 77 6) := (W_n W849 (by decide) (W_n W843 (by decide) c_758))
                                        have t_857 : (M850.2.1 77 6).toInt = (M.2.1 77 6).toInt := congrArg Int32.toInt c_856
                                        have c_858 : M850.2.1 77 8 = (M755.2.1 77 8) := (W_n W849 (by decide) (W_n W843 (by decide) rfl))
                                        have t_859 : (M850.2.1 77 8).toInt = (M755.2.1 77 8).toInt := congrArg Int32.toInt c_858
                                        have j_860 := (FA_f (fun a i z => W_n W849 (tg_231 a i z) rfl) (FA_f (fun a i z => W_n W843 (tg_232 a i z) rfl) (FA_f (tg_220 F750) (FA_f (tg_218 F738) (FA_f (tg_220 F695) (FA_f (tg_218 F683) (FA_f (tg_220 F146) (FA_f (tg_220 F92) (FA_f (tg_221 F77) (FA_f (tg_220 F65) q2))))))))))
                                        have j_861 := (WR_f (fun a i z => W_n W849 (by /-r77,5-/ omega) rfl) (WR_f (fun a i z => W_n W843 (by /-r77,4-/ omega) rfl) (WR_f (tg_222 F750) (WR_f (tg_219 F738) (WR_f (tg_222 F695) (WR_f (tg_219 F683) (WR_f (tg_222 F146) (WR_f (tg_222 F92) (WR_f (tg_223 F77) (WR_f (tg_222 F65) q3))))))))))
                                        exact h (0 : Int32) M850 hG851 F852 (by decide) (by decide) (by omega) (by omega) (by omega) j_860 j_861
                                      · refine to_an (pc := 22) rw_162_22 rfl (tt_gI (pc := 23) rw_162_23 (g_o hG751 rfl) (v := (M755.2.1 77 9)) rfl (to_in (pc := 26) rw_162_26 rfl (b_cle (pc := 27) rw_162_27 (A := (M755.2.1 77 9).toInt) (B := v763.toInt) rfl rfl (fun h862 => ?_) (fun h862 => ?_))))
                                        · refine to_c (pc := 38) rw_162_38 (x := (1 : Int32)) rfl rfl (to_go (pc := 39) rw_162_39 (s_r1 (pc := 43) rw_162_43 (A := 1) rfl (by decide) (b_ine_t (pc := 303) rw_170_303 (A := 1) rfl (by decide) (to_an (pc := 308) rw_170_308 rfl (tt_gI (pc := 309) rw_170_309 (g_o hG751 rfl) (v := (M755.2.1 77 9)) rfl (to_is (pc := 312) rw_170_312 (ls2 := [.ref 77, .int v85, .int (M70.2.1 77 9), .int v144, .int (1 : Int32), .int (0 : Int32), .int (M151.2.1 77 9), .int (M700.2.1 77 9), .int (M755.2.1 77 9)]) rfl rfl (to_an (pc := 314) rw_170_314 rfl (s_v (pc := 315) rw_170_315 (dp0 hd (by decide)) (ls0 := [.ref 77]) rfl (Nat.le_of_ble_eq_true rfl) (Nat.le_of_ble_eq_true rfl) rfl (to_rc rfl rfl rfl (g_o hG751 rfl)) rfl (C_156 hX (dp1 hd (by decide)) hG751 (by omega)  (fun M868 hG864 F863 p_865 p_866 p_867 => ?_))))))))))
                                          have F869 := FR.c F756 F863 tg_79
                                          have b_870 := g_b hG864 (a := 77) (i := 7) (lo := 0) (hi := 500) rfl rfl
                                          have c_871 : M868.2.1 77 6 = (M.2.1 77 6) := (F_n F863 (show ¬ (77 = 77 ∧ 7 ≤ 6 ∧ 6 ≤ 10) by decide) c_758)
                                          have t_872 : (M868.2.1 77 6).toInt = (M.2.1 77 6).toInt := congrArg Int32.toInt c_871
                                          have b_873 := g_b hG864 (a := 77) (i := 8) (lo := 0) (hi := 5) rfl rfl
                                          have c_874 : M868.2.1 77 15 = (M.2.1 77 15) := (F_n F863 (show ¬ (77 = 77 ∧ 7 ≤ 15 ∧ 15 ≤ 10) by decide) (F_n F750 (show ¬ (77 = 77 ∧ 7 ≤ 15 ∧ 15 ≤ 10) by decide) (F_n F738 (show ¬ (77 < 0) by decide) (F_n F695 (show ¬ (77 = 77 ∧ 7 ≤ 15 ∧ 15 ≤ 10) by decide) (F_n F683 (show ¬ (77 < 0) by decide) (F_n F146 (show ¬ (77 = 77 ∧ 7 ≤ 15 ∧ 15 ≤ 10) by decide) (F_n F92 (show ¬ (77 = 77 ∧ 7 ≤ 15 ∧ 15 ≤ 10) by decide) c_84)))))))
                                          have t_875 : (M868.2.1 77 15).toInt = (M.2.1 77 15).toInt := congrArg Int32.toInt c_874
                                          have j_876 := (FA_f (tg_220 F863) (FA_f (tg_220 F750) (FA_f (tg_218 F738) (FA_f (tg_220 F695) (FA_f (tg_218 F683) (FA_f (tg_220 F146) (FA_f (tg_220 F92) (FA_f (tg_221 F77) (FA_f (tg_220 F65) q2)))))))))
                                          have j_877 := (WR_f (tg_222 F863) (WR_f (tg_222 F750) (WR_f (tg_219 F738) (WR_f (tg_222 F695) (WR_f (tg_219 F683) (WR_f (tg_222 F146) (WR_f (tg_222 F92) (WR_f (tg_223 F77) (WR_f (tg_222 F65) q3)))))))))
                                          exact (T_170_0 hX hd q1 q2 q3 h (((0 : Int)).toNat + 1)) M868 v85 (M70.2.1 77 9) v144 (.int (1 : Int32)) (.int (0 : Int32)) (M151.2.1 77 9) (M700.2.1 77 9) (M755.2.1 77 9) hG864 F869 (by omega) (by omega) (by omega) (by omega) (by omega) (by omega) (by omega) (by omega) (by omega) (by omega) (by omega) (by omega) (by omega) (by omega) (by omega) j_876 j_877 (by omega)
                                        · refine to_an (pc := 30) rw_162_30 rfl (to_c (pc := 31) rw_162_31 (x := (2 : Int32)) rfl rfl (s_v (pc := 32) rw_162_32 (dp1 hd (by decide)) (ls0 := [.ref 77, .int (2 : Int32)]) rfl (Nat.le_of_ble_eq_true rfl) (Nat.le_of_ble_eq_true rfl) rfl (to_rc rfl rfl rfl (g_o hG751 rfl)) rfl (to_an (pc := 0) rw_152_0 rfl (to_in (pc := 1) rw_152_1 rfl (s_pI (pc := 2) rw_152_2 hG751 rfl (fun M879 W878 => ?_))))))
                                          have hG880 := g_wf hG751 W878 rfl rfl (by decide)
                                          have F881 := FR.w F756 W878 (show 77 = 77 ∧ (4 = 4 ∨ 4 = 5 ∨ 7 ≤ 4 ∧ 4 ≤ 10 ∨ 14 ≤ 4 ∧ 4 ≤ 16 ∨ 4 = 25) ∨ 80 ≤ 77 ∧ 77 ≤ 84 ∧ 8 ≤ 4 ∨ 85 ≤ 77 ∧ 77 ≤ 87 ∧ 12 ≤ 4 by decide)
                                          refine to_an (pc := 5) rw_152_5 rfl (to_an (pc := 6) rw_152_6 rfl ?_)
                                          have c_882 : M879.2.1 77 10 = (M755.2.1 77 10) := (W_n W878 (by decide) rfl)
                                          have b_883 := g_b hG751 (a := 77) (i := 10) (lo := 0) (hi := 500) rfl rfl
                                          refine tt_gI (pc := 7) rw_152_7 (g_o hG880 rfl) (v := (M755.2.1 77 10)) c_882 (s_pI (pc := 10) rw_152_10 hG880 rfl (fun M885 W884 => ?_))
                                          have hG886 := g_wf hG880 W884 rfl rfl (by decide)
                                          have F887 := FR.w F881 W884 (show 77 = 77 ∧ (5 = 4 ∨ 5 = 5 ∨ 7 ≤ 5 ∧ 5 ≤ 10 ∨ 14 ≤ 5 ∧ 5 ≤ 16 ∨ 5 = 25) ∨ 80 ≤ 77 ∧ 77 ≤ 84 ∧ 8 ≤ 5 ∨ 85 ≤ 77 ∧ 77 ≤ 87 ∧ 12 ≤ 5 by decide)
                                          refine to_c (pc := 13) rw_152_13 (x := (0 : Int32)) rfl rfl (s_r1 (pc := 14) rw_152_14 (A := 0) rfl (by decide) (b_ieq_t (pc := 35) rw_162_35 (A := 0) rfl (by decide) (to_c (pc := 42) rw_162_42 (x := (0 : Int32)) rfl rfl (s_r1 (pc := 43) rw_162_43 (A := 0) rfl (by decide) (b_ine_f (pc := 303) rw_170_303 (A := 0) rfl (by decide) (to_c (pc := 306) rw_170_306 (x := (0 : Int32)) rfl rfl (s_r1 (pc := 307) rw_170_307 (A := 0) rfl (by decide) ?_)))))))
                                          have k_888 : (0 : Int32).toInt = 0 := rfl
                                          have c_889 : M885.2.1 77 7 = (M755.2.1 77 7) := (W_n W884 (by decide) (W_n W878 (by decide) rfl))
                                          have t_890 : (M885.2.1 77 7).toInt = (M755.2.1 77 7).toInt := congrArg Int32.toInt c_889
                                          have c_891 : M885.2.1 77 6 = (M.2.1 77 6) := (W_n W884 (by decide) (W_n W878 (by decide) c_758))
                                          have t_892 : (M885.2.1 77 6).toInt = (M.2.1 77 6).toInt := congrArg Int32.toInt c_891
                                          have c_893 : M885.2.1 77 8 = (M755.2.1 77 8) := (W_n W884 (by decide) (W_n W878 (by decide) rfl))
                                          have t_894 : (M885.2.1 77 8).toInt = (M755.2.1 77 8).toInt := congrArg Int32.toInt c_893
                                          have j_895 := (FA_f (fun a i z => W_n W884 (tg_231 a i z) rfl) (FA_f (fun a i z => W_n W878 (tg_232 a i z) rfl) (FA_f (tg_220 F750) (FA_f (tg_218 F738) (FA_f (tg_220 F695) (FA_f (tg_218 F683) (FA_f (tg_220 F146) (FA_f (tg_220 F92) (FA_f (tg_221 F77) (FA_f (tg_220 F65) q2))))))))))
                                          have j_896 := (WR_f (fun a i z => W_n W884 (by /-r77,5-/ omega) rfl) (WR_f (fun a i z => W_n W878 (by /-r77,4-/ omega) rfl) (WR_f (tg_222 F750) (WR_f (tg_219 F738) (WR_f (tg_222 F695) (WR_f (tg_219 F683) (WR_f (tg_222 F146) (WR_f (tg_222 F92) (WR_f (tg_223 F77) (WR_f (tg_222 F65) q3))))))))))
                                          exact h (0 : Int32) M885 hG886 F887 (by decide) (by decide) (by omega) (by omega) (by omega) j_895 j_896
                                    · refine to_an (pc := 8) rw_162_8 rfl (to_c (pc := 9) rw_162_9 (x := (1 : Int32)) rfl rfl (s_v (pc := 10) rw_162_10 (dp1 hd (by decide)) (ls0 := [.ref 77, .int (1 : Int32)]) rfl (Nat.le_of_ble_eq_true rfl) (Nat.le_of_ble_eq_true rfl) rfl (to_rc rfl rfl rfl (g_o hG751 rfl)) rfl (to_an (pc := 0) rw_152_0 rfl (to_in (pc := 1) rw_152_1 rfl (s_pI (pc := 2) rw_152_2 hG751 rfl (fun M898 W897 => ?_))))))
                                      have hG899 := g_wf hG751 W897 rfl rfl (by decide)
                                      have F900 := FR.w F756 W897 (show 77 = 77 ∧ (4 = 4 ∨ 4 = 5 ∨ 7 ≤ 4 ∧ 4 ≤ 10 ∨ 14 ≤ 4 ∧ 4 ≤ 16 ∨ 4 = 25) ∨ 80 ≤ 77 ∧ 77 ≤ 84 ∧ 8 ≤ 4 ∨ 85 ≤ 77 ∧ 77 ≤ 87 ∧ 12 ≤ 4 by decide)
                                      refine to_an (pc := 5) rw_152_5 rfl (to_an (pc := 6) rw_152_6 rfl ?_)
                                      have c_901 : M898.2.1 77 10 = (M755.2.1 77 10) := (W_n W897 (by decide) rfl)
                                      have b_902 := g_b hG751 (a := 77) (i := 10) (lo := 0) (hi := 500) rfl rfl
                                      refine tt_gI (pc := 7) rw_152_7 (g_o hG899 rfl) (v := (M755.2.1 77 10)) c_901 (s_pI (pc := 10) rw_152_10 hG899 rfl (fun M904 W903 => ?_))
                                      have hG905 := g_wf hG899 W903 rfl rfl (by decide)
                                      have F906 := FR.w F900 W903 (show 77 = 77 ∧ (5 = 4 ∨ 5 = 5 ∨ 7 ≤ 5 ∧ 5 ≤ 10 ∨ 14 ≤ 5 ∧ 5 ≤ 16 ∨ 5 = 25) ∨ 80 ≤ 77 ∧ 77 ≤ 84 ∧ 8 ≤ 5 ∨ 85 ≤ 77 ∧ 77 ≤ 87 ∧ 12 ≤ 5 by decide)
                                      refine to_c (pc := 13) rw_152_13 (x := (0 : Int32)) rfl rfl (s_r1 (pc := 14) rw_152_14 (A := 0) rfl (by decide) (s_r1 (pc := 13) rw_162_13 (A := 0) rfl (by decide) (b_ine_f (pc := 303) rw_170_303 (A := 0) rfl (by decide) (to_c (pc := 306) rw_170_306 (x := (0 : Int32)) rfl rfl (s_r1 (pc := 307) rw_170_307 (A := 0) rfl (by decide) ?_)))))
                                      have k_907 : (0 : Int32).toInt = 0 := rfl
                                      have c_908 : M904.2.1 77 7 = (M755.2.1 77 7) := (W_n W903 (by decide) (W_n W897 (by decide) rfl))
                                      have t_909 : (M904.2.1 77 7).toInt = (M755.2.1 77 7).toInt := congrArg Int32.toInt c_908
                                      have c_910 : M904.2.1 77 6 = (M.2.1 77 6) := (W_n W903 (by decide) (W_n W897 (by decide) c_758))
                                      have t_911 : (M904.2.1 77 6).toInt = (M.2.1 77 6).toInt := congrArg Int32.toInt c_910
                                      have c_912 : M904.2.1 77 8 = (M755.2.1 77 8) := (W_n W903 (by decide) (W_n W897 (by decide) rfl))
                                      have t_913 : (M904.2.1 77 8).toInt = (M755.2.1 77 8).toInt := congrArg Int32.toInt c_912
                                      have j_914 := (FA_f (fun a i z => W_n W903 (tg_231 a i z) rfl) (FA_f (fun a i z => W_n W897 (tg_232 a i z) rfl) (FA_f (tg_220 F750) (FA_f (tg_218 F738) (FA_f (tg_220 F695) (FA_f (tg_218 F683) (FA_f (tg_220 F146) (FA_f (tg_220 F92) (FA_f (tg_221 F77) (FA_f (tg_220 F65) q2))))))))))
                                      have j_915 := (WR_f (fun a i z => W_n W903 (by /-r77,5-/ omega) rfl) (WR_f (fun a i z => W_n W897 (by /-r77,4-/ omega) rfl) (WR_f (tg_222 F750) (WR_f (tg_219 F738) (WR_f (tg_222 F695) (WR_f (tg_219 F683) (WR_f (tg_222 F146) (WR_f (tg_222 F92) (WR_f (tg_223 F77) (WR_f (tg_222 F65) q3))))))))))
                                      exact h (0 : Int32) M904 hG905 F906 (by decide) (by decide) (by omega) (by omega) (by omega) j_914 j_915
                                · refine to_an (pc := 262) rw_170_262 rfl (to_c (pc := 263) rw_170_263 (x := (3 : Int32)) rfl rfl (s_v (pc := 264) rw_170_264 (dp0 hd (by decide)) (ls0 := [.ref 77, .int (3 : Int32)]) rfl (Nat.le_of_ble_eq_true rfl) (Nat.le_of_ble_eq_true rfl) rfl (to_rc rfl rfl rfl (g_o hG739 rfl)) rfl (to_an (pc := 0) rw_152_0 rfl (to_in (pc := 1) rw_152_1 rfl (s_pI (pc := 2) rw_152_2 hG739 rfl (fun M917 W916 => ?_))))))
                                  have hG918 := g_wf hG739 W916 rfl rfl (by decide)
                                  have F919 := FR.w F741 W916 (show 77 = 77 ∧ (4 = 4 ∨ 4 = 5 ∨ 7 ≤ 4 ∧ 4 ≤ 10 ∨ 14 ≤ 4 ∧ 4 ≤ 16 ∨ 4 = 25) ∨ 80 ≤ 77 ∧ 77 ≤ 84 ∧ 8 ≤ 4 ∨ 85 ≤ 77 ∧ 77 ≤ 87 ∧ 12 ≤ 4 by decide)
                                  refine to_an (pc := 5) rw_152_5 rfl (to_an (pc := 6) rw_152_6 rfl ?_)
                                  have c_920 : M917.2.1 77 10 = (M700.2.1 77 10) := (W_n W916 (by decide) (F_n F738 (show ¬ (77 < 0) by decide) rfl))
                                  have b_921 := g_b hG696 (a := 77) (i := 10) (lo := 0) (hi := 500) rfl rfl
                                  refine tt_gI (pc := 7) rw_152_7 (g_o hG918 rfl) (v := (M700.2.1 77 10)) c_920 (s_pI (pc := 10) rw_152_10 hG918 rfl (fun M923 W922 => ?_))
                                  have hG924 := g_wf hG918 W922 rfl rfl (by decide)
                                  have F925 := FR.w F919 W922 (show 77 = 77 ∧ (5 = 4 ∨ 5 = 5 ∨ 7 ≤ 5 ∧ 5 ≤ 10 ∨ 14 ≤ 5 ∧ 5 ≤ 16 ∨ 5 = 25) ∨ 80 ≤ 77 ∧ 77 ≤ 84 ∧ 8 ≤ 5 ∨ 85 ≤ 77 ∧ 77 ≤ 87 ∧ 12 ≤ 5 by decide)
                                  refine to_c (pc := 13) rw_152_13 (x := (0 : Int32)) rfl rfl (s_r1 (pc := 14) rw_152_14 (A := 0) rfl (by decide) (s_r1 (pc := 267) rw_170_267 (A := 0) rfl (by decide) ?_))
                                  have k_926 : (0 : Int32).toInt = 0 := rfl
                                  have c_927 : M923.2.1 77 7 = (M700.2.1 77 7) := (W_n W922 (by decide) (W_n W916 (by decide) (F_n F738 (show ¬ (77 < 0) by decide) rfl)))
                                  have t_928 : (M923.2.1 77 7).toInt = (M700.2.1 77 7).toInt := congrArg Int32.toInt c_927
                                  have c_929 : M923.2.1 77 6 = (M.2.1 77 6) := (W_n W922 (by decide) (W_n W916 (by decide) (F_n F738 (show ¬ (77 < 0) by decide) c_703)))
                                  have t_930 : (M923.2.1 77 6).toInt = (M.2.1 77 6).toInt := congrArg Int32.toInt c_929
                                  have c_931 : M923.2.1 77 8 = (M700.2.1 77 8) := (W_n W922 (by decide) (W_n W916 (by decide) (F_n F738 (show ¬ (77 < 0) by decide) rfl)))
                                  have t_932 : (M923.2.1 77 8).toInt = (M700.2.1 77 8).toInt := congrArg Int32.toInt c_931
                                  have j_933 := (FA_f (fun a i z => W_n W922 (tg_231 a i z) rfl) (FA_f (fun a i z => W_n W916 (tg_232 a i z) rfl) (FA_f (tg_218 F738) (FA_f (tg_220 F695) (FA_f (tg_218 F683) (FA_f (tg_220 F146) (FA_f (tg_220 F92) (FA_f (tg_221 F77) (FA_f (tg_220 F65) q2)))))))))
                                  have j_934 := (WR_f (fun a i z => W_n W922 (by /-r77,5-/ omega) rfl) (WR_f (fun a i z => W_n W916 (by /-r77,4-/ omega) rfl) (WR_f (tg_219 F738) (WR_f (tg_222 F695) (WR_f (tg_219 F683) (WR_f (tg_222 F146) (WR_f (tg_222 F92) (WR_f (tg_223 F77) (WR_f (tg_222 F65) q3)))))))))
                                  exact h (0 : Int32) M923 hG924 F925 (by decide) (by decide) (by omega) (by omega) (by omega) j_933 j_934
                              · refine to_an (pc := 239) rw_170_239 rfl (to_c (pc := 240) rw_170_240 (x := (2 : Int32)) rfl rfl (s_v (pc := 241) rw_170_241 (dp0 hd (by decide)) (ls0 := [.ref 77, .int (2 : Int32)]) rfl (Nat.le_of_ble_eq_true rfl) (Nat.le_of_ble_eq_true rfl) rfl (to_rc rfl rfl rfl (g_o hG696 rfl)) rfl (to_an (pc := 0) rw_152_0 rfl (to_in (pc := 1) rw_152_1 rfl (s_pI (pc := 2) rw_152_2 hG696 rfl (fun M936 W935 => ?_))))))
                                have hG937 := g_wf hG696 W935 rfl rfl (by decide)
                                have F938 := FR.w F701 W935 (show 77 = 77 ∧ (4 = 4 ∨ 4 = 5 ∨ 7 ≤ 4 ∧ 4 ≤ 10 ∨ 14 ≤ 4 ∧ 4 ≤ 16 ∨ 4 = 25) ∨ 80 ≤ 77 ∧ 77 ≤ 84 ∧ 8 ≤ 4 ∨ 85 ≤ 77 ∧ 77 ≤ 87 ∧ 12 ≤ 4 by decide)
                                refine to_an (pc := 5) rw_152_5 rfl (to_an (pc := 6) rw_152_6 rfl ?_)
                                have c_939 : M936.2.1 77 10 = (M700.2.1 77 10) := (W_n W935 (by decide) rfl)
                                have b_940 := g_b hG696 (a := 77) (i := 10) (lo := 0) (hi := 500) rfl rfl
                                refine tt_gI (pc := 7) rw_152_7 (g_o hG937 rfl) (v := (M700.2.1 77 10)) c_939 (s_pI (pc := 10) rw_152_10 hG937 rfl (fun M942 W941 => ?_))
                                have hG943 := g_wf hG937 W941 rfl rfl (by decide)
                                have F944 := FR.w F938 W941 (show 77 = 77 ∧ (5 = 4 ∨ 5 = 5 ∨ 7 ≤ 5 ∧ 5 ≤ 10 ∨ 14 ≤ 5 ∧ 5 ≤ 16 ∨ 5 = 25) ∨ 80 ≤ 77 ∧ 77 ≤ 84 ∧ 8 ≤ 5 ∨ 85 ≤ 77 ∧ 77 ≤ 87 ∧ 12 ≤ 5 by decide)
                                refine to_c (pc := 13) rw_152_13 (x := (0 : Int32)) rfl rfl (s_r1 (pc := 14) rw_152_14 (A := 0) rfl (by decide) (s_r1 (pc := 244) rw_170_244 (A := 0) rfl (by decide) ?_))
                                have k_945 : (0 : Int32).toInt = 0 := rfl
                                have c_946 : M942.2.1 77 7 = (M700.2.1 77 7) := (W_n W941 (by decide) (W_n W935 (by decide) rfl))
                                have t_947 : (M942.2.1 77 7).toInt = (M700.2.1 77 7).toInt := congrArg Int32.toInt c_946
                                have c_948 : M942.2.1 77 6 = (M.2.1 77 6) := (W_n W941 (by decide) (W_n W935 (by decide) c_703))
                                have t_949 : (M942.2.1 77 6).toInt = (M.2.1 77 6).toInt := congrArg Int32.toInt c_948
                                have c_950 : M942.2.1 77 8 = (M700.2.1 77 8) := (W_n W941 (by decide) (W_n W935 (by decide) rfl))
                                have t_951 : (M942.2.1 77 8).toInt = (M700.2.1 77 8).toInt := congrArg Int32.toInt c_950
                                have j_952 := (FA_f (fun a i z => W_n W941 (tg_231 a i z) rfl) (FA_f (fun a i z => W_n W935 (tg_232 a i z) rfl) (FA_f (tg_220 F695) (FA_f (tg_218 F683) (FA_f (tg_220 F146) (FA_f (tg_220 F92) (FA_f (tg_221 F77) (FA_f (tg_220 F65) q2))))))))
                                have j_953 := (WR_f (fun a i z => W_n W941 (by /-r77,5-/ omega) rfl) (WR_f (fun a i z => W_n W935 (by /-r77,4-/ omega) rfl) (WR_f (tg_222 F695) (WR_f (tg_219 F683) (WR_f (tg_222 F146) (WR_f (tg_222 F92) (WR_f (tg_223 F77) (WR_f (tg_222 F65) q3))))))))
                                exact h (0 : Int32) M942 hG943 F944 (by decide) (by decide) (by omega) (by omega) (by omega) j_952 j_953
                            · refine to_an (pc := 30) rw_162_30 rfl (to_c (pc := 31) rw_162_31 (x := (2 : Int32)) rfl rfl (s_v (pc := 32) rw_162_32 (dp1 hd (by decide)) (ls0 := [.ref 77, .int (2 : Int32)]) rfl (Nat.le_of_ble_eq_true rfl) (Nat.le_of_ble_eq_true rfl) rfl (to_rc rfl rfl rfl (g_o hG696 rfl)) rfl (to_an (pc := 0) rw_152_0 rfl (to_in (pc := 1) rw_152_1 rfl (s_pI (pc := 2) rw_152_2 hG696 rfl (fun M955 W954 => ?_))))))
                              have hG956 := g_wf hG696 W954 rfl rfl (by decide)
                              have F957 := FR.w F701 W954 (show 77 = 77 ∧ (4 = 4 ∨ 4 = 5 ∨ 7 ≤ 4 ∧ 4 ≤ 10 ∨ 14 ≤ 4 ∧ 4 ≤ 16 ∨ 4 = 25) ∨ 80 ≤ 77 ∧ 77 ≤ 84 ∧ 8 ≤ 4 ∨ 85 ≤ 77 ∧ 77 ≤ 87 ∧ 12 ≤ 4 by decide)
                              refine to_an (pc := 5) rw_152_5 rfl (to_an (pc := 6) rw_152_6 rfl ?_)
                              have c_958 : M955.2.1 77 10 = (M700.2.1 77 10) := (W_n W954 (by decide) rfl)
                              have b_959 := g_b hG696 (a := 77) (i := 10) (lo := 0) (hi := 500) rfl rfl
                              refine tt_gI (pc := 7) rw_152_7 (g_o hG956 rfl) (v := (M700.2.1 77 10)) c_958 (s_pI (pc := 10) rw_152_10 hG956 rfl (fun M961 W960 => ?_))
                              have hG962 := g_wf hG956 W960 rfl rfl (by decide)
                              have F963 := FR.w F957 W960 (show 77 = 77 ∧ (5 = 4 ∨ 5 = 5 ∨ 7 ≤ 5 ∧ 5 ≤ 10 ∨ 14 ≤ 5 ∧ 5 ≤ 16 ∨ 5 = 25) ∨ 80 ≤ 77 ∧ 77 ≤ 84 ∧ 8 ≤ 5 ∨ 85 ≤ 77 ∧ 77 ≤ 87 ∧ 12 ≤ 5 by decide)
                              refine to_c (pc := 13) rw_152_13 (x := (0 : Int32)) rfl rfl (s_r1 (pc := 14) rw_152_14 (A := 0) rfl (by decide) (b_ieq_t (pc := 35) rw_162_35 (A := 0) rfl (by decide) (to_c (pc := 42) rw_162_42 (x := (0 : Int32)) rfl rfl (s_r1 (pc := 43) rw_162_43 (A := 0) rfl (by decide) (b_ine_f (pc := 218) rw_170_218 (A := 0) rfl (by decide) (to_c (pc := 221) rw_170_221 (x := (0 : Int32)) rfl rfl (s_r1 (pc := 222) rw_170_222 (A := 0) rfl (by decide) ?_)))))))
                              have k_964 : (0 : Int32).toInt = 0 := rfl
                              have c_965 : M961.2.1 77 7 = (M700.2.1 77 7) := (W_n W960 (by decide) (W_n W954 (by decide) rfl))
                              have t_966 : (M961.2.1 77 7).toInt = (M700.2.1 77 7).toInt := congrArg Int32.toInt c_965
                              have c_967 : M961.2.1 77 6 = (M.2.1 77 6) := (W_n W960 (by decide) (W_n W954 (by decide) c_703))
                              have t_968 : (M961.2.1 77 6).toInt = (M.2.1 77 6).toInt := congrArg Int32.toInt c_967
                              have c_969 : M961.2.1 77 8 = (M700.2.1 77 8) := (W_n W960 (by decide) (W_n W954 (by decide) rfl))
                              have t_970 : (M961.2.1 77 8).toInt = (M700.2.1 77 8).toInt := congrArg Int32.toInt c_969
                              have j_971 := (FA_f (fun a i z => W_n W960 (tg_231 a i z) rfl) (FA_f (fun a i z => W_n W954 (tg_232 a i z) rfl) (FA_f (tg_220 F695) (FA_f (tg_218 F683) (FA_f (tg_220 F146) (FA_f (tg_220 F92) (FA_f (tg_221 F77) (FA_f (tg_220 F65) q2))))))))
                              have j_972 := (WR_f (fun a i z => W_n W960 (by /-r77,5-/ omega) rfl) (WR_f (fun a i z => W_n W954 (by /-r77,4-/ omega) rfl) (WR_f (tg_222 F695) (WR_f (tg_219 F683) (WR_f (tg_222 F146) (WR_f (tg_222 F92) (WR_f (tg_223 F77) (WR_f (tg_222 F65) q3))))))))
                              exact h (0 : Int32) M961 hG962 F963 (by decide) (by decide) (by omega) (by omega) (by omega) j_971 j_972
                        · refine to_an (pc := 8) rw_162_8 rfl (to_c (pc := 9) rw_162_9 (x := (1 : Int32)) rfl rfl (s_v (pc := 10) rw_162_10 (dp1 hd (by decide)) (ls0 := [.ref 77, .int (1 : Int32)]) rfl (Nat.le_of_ble_eq_true rfl) (Nat.le_of_ble_eq_true rfl) rfl (to_rc rfl rfl rfl (g_o hG696 rfl)) rfl (to_an (pc := 0) rw_152_0 rfl (to_in (pc := 1) rw_152_1 rfl (s_pI (pc := 2) rw_152_2 hG696 rfl (fun M974 W973 => ?_))))))
                          have hG975 := g_wf hG696 W973 rfl rfl (by decide)
                          have F976 := FR.w F701 W973 (show 77 = 77 ∧ (4 = 4 ∨ 4 = 5 ∨ 7 ≤ 4 ∧ 4 ≤ 10 ∨ 14 ≤ 4 ∧ 4 ≤ 16 ∨ 4 = 25) ∨ 80 ≤ 77 ∧ 77 ≤ 84 ∧ 8 ≤ 4 ∨ 85 ≤ 77 ∧ 77 ≤ 87 ∧ 12 ≤ 4 by decide)
                          refine to_an (pc := 5) rw_152_5 rfl (to_an (pc := 6) rw_152_6 rfl ?_)
                          have c_977 : M974.2.1 77 10 = (M700.2.1 77 10) := (W_n W973 (by decide) rfl)
                          have b_978 := g_b hG696 (a := 77) (i := 10) (lo := 0) (hi := 500) rfl rfl
                          refine tt_gI (pc := 7) rw_152_7 (g_o hG975 rfl) (v := (M700.2.1 77 10)) c_977 (s_pI (pc := 10) rw_152_10 hG975 rfl (fun M980 W979 => ?_))
                          have hG981 := g_wf hG975 W979 rfl rfl (by decide)
                          have F982 := FR.w F976 W979 (show 77 = 77 ∧ (5 = 4 ∨ 5 = 5 ∨ 7 ≤ 5 ∧ 5 ≤ 10 ∨ 14 ≤ 5 ∧ 5 ≤ 16 ∨ 5 = 25) ∨ 80 ≤ 77 ∧ 77 ≤ 84 ∧ 8 ≤ 5 ∨ 85 ≤ 77 ∧ 77 ≤ 87 ∧ 12 ≤ 5 by decide)
                          refine to_c (pc := 13) rw_152_13 (x := (0 : Int32)) rfl rfl (s_r1 (pc := 14) rw_152_14 (A := 0) rfl (by decide) (s_r1 (pc := 13) rw_162_13 (A := 0) rfl (by decide) (b_ine_f (pc := 218) rw_170_218 (A := 0) rfl (by decide) (to_c (pc := 221) rw_170_221 (x := (0 : Int32)) rfl rfl (s_r1 (pc := 222) rw_170_222 (A := 0) rfl (by decide) ?_)))))
                          have k_983 : (0 : Int32).toInt = 0 := rfl
                          have c_984 : M980.2.1 77 7 = (M700.2.1 77 7) := (W_n W979 (by decide) (W_n W973 (by decide) rfl))
                          have t_985 : (M980.2.1 77 7).toInt = (M700.2.1 77 7).toInt := congrArg Int32.toInt c_984
                          have c_986 : M980.2.1 77 6 = (M.2.1 77 6) := (W_n W979 (by decide) (W_n W973 (by decide) c_703))
                          have t_987 : (M980.2.1 77 6).toInt = (M.2.1 77 6).toInt := congrArg Int32.toInt c_986
                          have c_988 : M980.2.1 77 8 = (M700.2.1 77 8) := (W_n W979 (by decide) (W_n W973 (by decide) rfl))
                          have t_989 : (M980.2.1 77 8).toInt = (M700.2.1 77 8).toInt := congrArg Int32.toInt c_988
                          have j_990 := (FA_f (fun a i z => W_n W979 (tg_231 a i z) rfl) (FA_f (fun a i z => W_n W973 (tg_232 a i z) rfl) (FA_f (tg_220 F695) (FA_f (tg_218 F683) (FA_f (tg_220 F146) (FA_f (tg_220 F92) (FA_f (tg_221 F77) (FA_f (tg_220 F65) q2))))))))
                          have j_991 := (WR_f (fun a i z => W_n W979 (by /-r77,5-/ omega) rfl) (WR_f (fun a i z => W_n W973 (by /-r77,4-/ omega) rfl) (WR_f (tg_222 F695) (WR_f (tg_219 F683) (WR_f (tg_222 F146) (WR_f (tg_222 F92) (WR_f (tg_223 F77) (WR_f (tg_222 F65) q3))))))))
                          exact h (0 : Int32) M980 hG981 F982 (by decide) (by decide) (by omega) (by omega) (by omega) j_990 j_991
                      · refine to_an (pc := 169) rw_170_169 rfl (to_c (pc := 170) rw_170_170 (x := (3 : Int32)) rfl rfl (s_v (pc := 171) rw_170_171 (dp0 hd (by decide)) (ls0 := [.ref 77, .int (3 : Int32)]) rfl (Nat.le_of_ble_eq_true rfl) (Nat.le_of_ble_eq_true rfl) rfl (to_rc rfl rfl rfl (g_o hG684 rfl)) rfl (to_an (pc := 0) rw_152_0 rfl (to_in (pc := 1) rw_152_1 rfl (s_pI (pc := 2) rw_152_2 hG684 rfl (fun M993 W992 => ?_))))))
                        have hG994 := g_wf hG684 W992 rfl rfl (by decide)
                        have F995 := FR.w F686 W992 (show 77 = 77 ∧ (4 = 4 ∨ 4 = 5 ∨ 7 ≤ 4 ∧ 4 ≤ 10 ∨ 14 ≤ 4 ∧ 4 ≤ 16 ∨ 4 = 25) ∨ 80 ≤ 77 ∧ 77 ≤ 84 ∧ 8 ≤ 4 ∨ 85 ≤ 77 ∧ 77 ≤ 87 ∧ 12 ≤ 4 by decide)
                        refine to_an (pc := 5) rw_152_5 rfl (to_an (pc := 6) rw_152_6 rfl ?_)
                        have c_996 : M993.2.1 77 10 = (M151.2.1 77 10) := (W_n W992 (by decide) (F_n F683 (show ¬ (77 < 0) by decide) rfl))
                        have b_997 := g_b hG147 (a := 77) (i := 10) (lo := 0) (hi := 500) rfl rfl
                        refine tt_gI (pc := 7) rw_152_7 (g_o hG994 rfl) (v := (M151.2.1 77 10)) c_996 (s_pI (pc := 10) rw_152_10 hG994 rfl (fun M999 W998 => ?_))
                        have hG1000 := g_wf hG994 W998 rfl rfl (by decide)
                        have F1001 := FR.w F995 W998 (show 77 = 77 ∧ (5 = 4 ∨ 5 = 5 ∨ 7 ≤ 5 ∧ 5 ≤ 10 ∨ 14 ≤ 5 ∧ 5 ≤ 16 ∨ 5 = 25) ∨ 80 ≤ 77 ∧ 77 ≤ 84 ∧ 8 ≤ 5 ∨ 85 ≤ 77 ∧ 77 ≤ 87 ∧ 12 ≤ 5 by decide)
                        refine to_c (pc := 13) rw_152_13 (x := (0 : Int32)) rfl rfl (s_r1 (pc := 14) rw_152_14 (A := 0) rfl (by decide) (s_r1 (pc := 174) rw_170_174 (A := 0) rfl (by decide) ?_))
                        have k_1002 : (0 : Int32).toInt = 0 := rfl
                        have c_1003 : M999.2.1 77 7 = (M151.2.1 77 7) := (W_n W998 (by decide) (W_n W992 (by decide) (F_n F683 (show ¬ (77 < 0) by decide) rfl)))
                        have t_1004 : (M999.2.1 77 7).toInt = (M151.2.1 77 7).toInt := congrArg Int32.toInt c_1003
                        have c_1005 : M999.2.1 77 6 = (M.2.1 77 6) := (W_n W998 (by decide) (W_n W992 (by decide) (F_n F683 (show ¬ (77 < 0) by decide) c_154)))
                        have t_1006 : (M999.2.1 77 6).toInt = (M.2.1 77 6).toInt := congrArg Int32.toInt c_1005
                        have c_1007 : M999.2.1 77 8 = (M151.2.1 77 8) := (W_n W998 (by decide) (W_n W992 (by decide) (F_n F683 (show ¬ (77 < 0) by decide) rfl)))
                        have t_1008 : (M999.2.1 77 8).toInt = (M151.2.1 77 8).toInt := congrArg Int32.toInt c_1007
                        have j_1009 := (FA_f (fun a i z => W_n W998 (tg_231 a i z) rfl) (FA_f (fun a i z => W_n W992 (tg_232 a i z) rfl) (FA_f (tg_218 F683) (FA_f (tg_220 F146) (FA_f (tg_220 F92) (FA_f (tg_221 F77) (FA_f (tg_220 F65) q2)))))))
                        have j_1010 := (WR_f (fun a i z => W_n W998 (by /-r77,5-/ omega) rfl) (WR_f (fun a i z => W_n W992 (by /-r77,4-/ omega) rfl) (WR_f (tg_219 F683) (WR_f (tg_222 F146) (WR_f (tg_222 F92) (WR_f (tg_223 F77) (WR_f (tg_222 F65) q3)))))))
                        exact h (0 : Int32) M999 hG1000 F1001 (by decide) (by decide) (by omega) (by omega) (by omega) j_1009 j_1010
                    · refine to_an (pc := 30) rw_162_30 rfl (to_c (pc := 31) rw_162_31 (x := (2 : Int32)) rfl rfl (s_v (pc := 32) rw_162_32 (dp1 hd (by decide)) (ls0 := [.ref 77, .int (2 : Int32)]) rfl (Nat.le_of_ble_eq_true rfl) (Nat.le_of_ble_eq_true rfl) rfl (to_rc rfl rfl rfl (g_o hG147 rfl)) rfl (to_an (pc := 0) rw_152_0 rfl (to_in (pc := 1) rw_152_1 rfl (s_pI (pc := 2) rw_152_2 hG147 rfl (fun M1012 W1011 => ?_))))))
                      have hG1013 := g_wf hG147 W1011 rfl rfl (by decide)
                      have F1014 := FR.w F152 W1011 (show 77 = 77 ∧ (4 = 4 ∨ 4 = 5 ∨ 7 ≤ 4 ∧ 4 ≤ 10 ∨ 14 ≤ 4 ∧ 4 ≤ 16 ∨ 4 = 25) ∨ 80 ≤ 77 ∧ 77 ≤ 84 ∧ 8 ≤ 4 ∨ 85 ≤ 77 ∧ 77 ≤ 87 ∧ 12 ≤ 4 by decide)
                      refine to_an (pc := 5) rw_152_5 rfl (to_an (pc := 6) rw_152_6 rfl ?_)
                      have c_1015 : M1012.2.1 77 10 = (M151.2.1 77 10) := (W_n W1011 (by decide) rfl)
                      have b_1016 := g_b hG147 (a := 77) (i := 10) (lo := 0) (hi := 500) rfl rfl
                      refine tt_gI (pc := 7) rw_152_7 (g_o hG1013 rfl) (v := (M151.2.1 77 10)) c_1015 (s_pI (pc := 10) rw_152_10 hG1013 rfl (fun M1018 W1017 => ?_))
                      have hG1019 := g_wf hG1013 W1017 rfl rfl (by decide)
                      have F1020 := FR.w F1014 W1017 (show 77 = 77 ∧ (5 = 4 ∨ 5 = 5 ∨ 7 ≤ 5 ∧ 5 ≤ 10 ∨ 14 ≤ 5 ∧ 5 ≤ 16 ∨ 5 = 25) ∨ 80 ≤ 77 ∧ 77 ≤ 84 ∧ 8 ≤ 5 ∨ 85 ≤ 77 ∧ 77 ≤ 87 ∧ 12 ≤ 5 by decide)
                      refine to_c (pc := 13) rw_152_13 (x := (0 : Int32)) rfl rfl (s_r1 (pc := 14) rw_152_14 (A := 0) rfl (by decide) (b_ieq_t (pc := 35) rw_162_35 (A := 0) rfl (by decide) (to_c (pc := 42) rw_162_42 (x := (0 : Int32)) rfl rfl (s_r1 (pc := 43) rw_162_43 (A := 0) rfl (by decide) (b_ine_f (pc := 138) rw_170_138 (A := 0) rfl (by decide) (to_c (pc := 141) rw_170_141 (x := (0 : Int32)) rfl rfl (s_r1 (pc := 142) rw_170_142 (A := 0) rfl (by decide) ?_)))))))
                      have k_1021 : (0 : Int32).toInt = 0 := rfl
                      have c_1022 : M1018.2.1 77 7 = (M151.2.1 77 7) := (W_n W1017 (by decide) (W_n W1011 (by decide) rfl))
                      have t_1023 : (M1018.2.1 77 7).toInt = (M151.2.1 77 7).toInt := congrArg Int32.toInt c_1022
                      have c_1024 : M1018.2.1 77 6 = (M.2.1 77 6) := (W_n W1017 (by decide) (W_n W1011 (by decide) c_154))
                      have t_1025 : (M1018.2.1 77 6).toInt = (M.2.1 77 6).toInt := congrArg Int32.toInt c_1024
                      have c_1026 : M1018.2.1 77 8 = (M151.2.1 77 8) := (W_n W1017 (by decide) (W_n W1011 (by decide) rfl))
                      have t_1027 : (M1018.2.1 77 8).toInt = (M151.2.1 77 8).toInt := congrArg Int32.toInt c_1026
                      have j_1028 := (FA_f (fun a i z => W_n W1017 (tg_231 a i z) rfl) (FA_f (fun a i z => W_n W1011 (tg_232 a i z) rfl) (FA_f (tg_220 F146) (FA_f (tg_220 F92) (FA_f (tg_221 F77) (FA_f (tg_220 F65) q2))))))
                      have j_1029 := (WR_f (fun a i z => W_n W1017 (by /-r77,5-/ omega) rfl) (WR_f (fun a i z => W_n W1011 (by /-r77,4-/ omega) rfl) (WR_f (tg_222 F146) (WR_f (tg_222 F92) (WR_f (tg_223 F77) (WR_f (tg_222 F65) q3))))))
                      exact h (0 : Int32) M1018 hG1019 F1020 (by decide) (by decide) (by omega) (by omega) (by omega) j_1028 j_1029
                · refine to_an (pc := 8) rw_162_8 rfl (to_c (pc := 9) rw_162_9 (x := (1 : Int32)) rfl rfl (s_v (pc := 10) rw_162_10 (dp1 hd (by decide)) (ls0 := [.ref 77, .int (1 : Int32)]) rfl (Nat.le_of_ble_eq_true rfl) (Nat.le_of_ble_eq_true rfl) rfl (to_rc rfl rfl rfl (g_o hG147 rfl)) rfl (to_an (pc := 0) rw_152_0 rfl (to_in (pc := 1) rw_152_1 rfl (s_pI (pc := 2) rw_152_2 hG147 rfl (fun M1031 W1030 => ?_))))))
                  have hG1032 := g_wf hG147 W1030 rfl rfl (by decide)
                  have F1033 := FR.w F152 W1030 (show 77 = 77 ∧ (4 = 4 ∨ 4 = 5 ∨ 7 ≤ 4 ∧ 4 ≤ 10 ∨ 14 ≤ 4 ∧ 4 ≤ 16 ∨ 4 = 25) ∨ 80 ≤ 77 ∧ 77 ≤ 84 ∧ 8 ≤ 4 ∨ 85 ≤ 77 ∧ 77 ≤ 87 ∧ 12 ≤ 4 by decide)
                  refine to_an (pc := 5) rw_152_5 rfl (to_an (pc := 6) rw_152_6 rfl ?_)
                  have c_1034 : M1031.2.1 77 10 = (M151.2.1 77 10) := (W_n W1030 (by decide) rfl)
                  have b_1035 := g_b hG147 (a := 77) (i := 10) (lo := 0) (hi := 500) rfl rfl
                  refine tt_gI (pc := 7) rw_152_7 (g_o hG1032 rfl) (v := (M151.2.1 77 10)) c_1034 (s_pI (pc := 10) rw_152_10 hG1032 rfl (fun M1037 W1036 => ?_))
                  have hG1038 := g_wf hG1032 W1036 rfl rfl (by decide)
                  have F1039 := FR.w F1033 W1036 (show 77 = 77 ∧ (5 = 4 ∨ 5 = 5 ∨ 7 ≤ 5 ∧ 5 ≤ 10 ∨ 14 ≤ 5 ∧ 5 ≤ 16 ∨ 5 = 25) ∨ 80 ≤ 77 ∧ 77 ≤ 84 ∧ 8 ≤ 5 ∨ 85 ≤ 77 ∧ 77 ≤ 87 ∧ 12 ≤ 5 by decide)
                  refine to_c (pc := 13) rw_152_13 (x := (0 : Int32)) rfl rfl (s_r1 (pc := 14) rw_152_14 (A := 0) rfl (by decide) (s_r1 (pc := 13) rw_162_13 (A := 0) rfl (by decide) (b_ine_f (pc := 138) rw_170_138 (A := 0) rfl (by decide) (to_c (pc := 141) rw_170_141 (x := (0 : Int32)) rfl rfl (s_r1 (pc := 142) rw_170_142 (A := 0) rfl (by decide) ?_)))))
                  have k_1040 : (0 : Int32).toInt = 0 := rfl
                  have c_1041 : M1037.2.1 77 7 = (M151.2.1 77 7) := (W_n W1036 (by decide) (W_n W1030 (by decide) rfl))
                  have t_1042 : (M1037.2.1 77 7).toInt = (M151.2.1 77 7).toInt := congrArg Int32.toInt c_1041
                  have c_1043 : M1037.2.1 77 6 = (M.2.1 77 6) := (W_n W1036 (by decide) (W_n W1030 (by decide) c_154))
                  have t_1044 : (M1037.2.1 77 6).toInt = (M.2.1 77 6).toInt := congrArg Int32.toInt c_1043
                  have c_1045 : M1037.2.1 77 8 = (M151.2.1 77 8) := (W_n W1036 (by decide) (W_n W1030 (by decide) rfl))
                  have t_1046 : (M1037.2.1 77 8).toInt = (M151.2.1 77 8).toInt := congrArg Int32.toInt c_1045
                  have j_1047 := (FA_f (fun a i z => W_n W1036 (tg_231 a i z) rfl) (FA_f (fun a i z => W_n W1030 (tg_232 a i z) rfl) (FA_f (tg_220 F146) (FA_f (tg_220 F92) (FA_f (tg_221 F77) (FA_f (tg_220 F65) q2))))))
                  have j_1048 := (WR_f (fun a i z => W_n W1036 (by /-r77,5-/ omega) rfl) (WR_f (fun a i z => W_n W1030 (by /-r77,4-/ omega) rfl) (WR_f (tg_222 F146) (WR_f (tg_222 F92) (WR_f (tg_223 F77) (WR_f (tg_222 F65) q3))))))
                  exact h (0 : Int32) M1037 hG1038 F1039 (by decide) (by decide) (by omega) (by omega) (by omega) j_1047 j_1048
          · refine to_an (pc := 70) rw_170_70 rfl (to_c (pc := 71) rw_170_71 (x := (1 : Int32)) rfl rfl (s_v (pc := 72) rw_170_72 (dp0 hd (by decide)) (ls0 := [.ref 77, .int (1 : Int32)]) rfl (Nat.le_of_ble_eq_true rfl) (Nat.le_of_ble_eq_true rfl) rfl (to_rc rfl rfl rfl (g_o hG93 rfl)) rfl (to_an (pc := 0) rw_152_0 rfl (to_in (pc := 1) rw_152_1 rfl (s_pI (pc := 2) rw_152_2 hG93 rfl (fun M1050 W1049 => ?_))))))
            have hG1051 := g_wf hG93 W1049 rfl rfl (by decide)
            have F1052 := FR.w F98 W1049 (show 77 = 77 ∧ (4 = 4 ∨ 4 = 5 ∨ 7 ≤ 4 ∧ 4 ≤ 10 ∨ 14 ≤ 4 ∧ 4 ≤ 16 ∨ 4 = 25) ∨ 80 ≤ 77 ∧ 77 ≤ 84 ∧ 8 ≤ 4 ∨ 85 ≤ 77 ∧ 77 ≤ 87 ∧ 12 ≤ 4 by decide)
            refine to_an (pc := 5) rw_152_5 rfl (to_an (pc := 6) rw_152_6 rfl ?_)
            have c_1053 : M1050.2.1 77 10 = (M97.2.1 77 10) := (W_n W1049 (by decide) rfl)
            have b_1054 := g_b hG93 (a := 77) (i := 10) (lo := 0) (hi := 500) rfl rfl
            refine tt_gI (pc := 7) rw_152_7 (g_o hG1051 rfl) (v := (M97.2.1 77 10)) c_1053 (s_pI (pc := 10) rw_152_10 hG1051 rfl (fun M1056 W1055 => ?_))
            have hG1057 := g_wf hG1051 W1055 rfl rfl (by decide)
            have F1058 := FR.w F1052 W1055 (show 77 = 77 ∧ (5 = 4 ∨ 5 = 5 ∨ 7 ≤ 5 ∧ 5 ≤ 10 ∨ 14 ≤ 5 ∧ 5 ≤ 16 ∨ 5 = 25) ∨ 80 ≤ 77 ∧ 77 ≤ 84 ∧ 8 ≤ 5 ∨ 85 ≤ 77 ∧ 77 ≤ 87 ∧ 12 ≤ 5 by decide)
            refine to_c (pc := 13) rw_152_13 (x := (0 : Int32)) rfl rfl (s_r1 (pc := 14) rw_152_14 (A := 0) rfl (by decide) (s_r1 (pc := 75) rw_170_75 (A := 0) rfl (by decide) ?_))
            have k_1059 : (0 : Int32).toInt = 0 := rfl
            have c_1060 : M1056.2.1 77 7 = (M97.2.1 77 7) := (W_n W1055 (by decide) (W_n W1049 (by decide) rfl))
            have t_1061 : (M1056.2.1 77 7).toInt = (M97.2.1 77 7).toInt := congrArg Int32.toInt c_1060
            have c_1062 : M1056.2.1 77 6 = (M.2.1 77 6) := (W_n W1055 (by decide) (W_n W1049 (by decide) c_100))
            have t_1063 : (M1056.2.1 77 6).toInt = (M.2.1 77 6).toInt := congrArg Int32.toInt c_1062
            have c_1064 : M1056.2.1 77 8 = (M97.2.1 77 8) := (W_n W1055 (by decide) (W_n W1049 (by decide) rfl))
            have t_1065 : (M1056.2.1 77 8).toInt = (M97.2.1 77 8).toInt := congrArg Int32.toInt c_1064
            have j_1066 := (FA_f (fun a i z => W_n W1055 (tg_231 a i z) rfl) (FA_f (fun a i z => W_n W1049 (tg_232 a i z) rfl) (FA_f (tg_220 F92) (FA_f (tg_221 F77) (FA_f (tg_220 F65) q2)))))
            have j_1067 := (WR_f (fun a i z => W_n W1055 (by /-r77,5-/ omega) rfl) (WR_f (fun a i z => W_n W1049 (by /-r77,4-/ omega) rfl) (WR_f (tg_222 F92) (WR_f (tg_223 F77) (WR_f (tg_222 F65) q3)))))
            exact h (0 : Int32) M1056 hG1057 F1058 (by decide) (by decide) (by omega) (by omega) (by omega) j_1066 j_1067
    · refine to_c (pc := 26) rw_170_26 (x := (0 : Int32)) rfl rfl (s_r1 (pc := 27) rw_170_27 (A := 0) rfl (by decide) ?_)
      have k_1068 : (0 : Int32).toInt = 0 := rfl
      have c_1069 : M81.2.1 77 7 = (M70.2.1 77 7) := (F_n F77 (show ¬ (77 = 77 ∧ (7 = 4 ∨ 7 = 5)) by decide) rfl)
      have t_1070 : (M81.2.1 77 7).toInt = (M70.2.1 77 7).toInt := congrArg Int32.toInt c_1069
      have c_1071 : M81.2.1 77 6 = (M.2.1 77 6) := (F_n F77 (show ¬ (77 = 77 ∧ (6 = 4 ∨ 6 = 5)) by decide) c_73)
      have t_1072 : (M81.2.1 77 6).toInt = (M.2.1 77 6).toInt := congrArg Int32.toInt c_1071
      have c_1073 : M81.2.1 77 8 = (M70.2.1 77 8) := (F_n F77 (show ¬ (77 = 77 ∧ (8 = 4 ∨ 8 = 5)) by decide) rfl)
      have t_1074 : (M81.2.1 77 8).toInt = (M70.2.1 77 8).toInt := congrArg Int32.toInt c_1073
      have j_1075 := (FA_f (tg_221 F77) (FA_f (tg_220 F65) q2))
      have j_1076 := (WR_f (tg_223 F77) (WR_f (tg_222 F65) q3))
      exact h (0 : Int32) M81 hG78 F82 (by decide) (by decide) (by omega) (by omega) (by omega) j_1075 j_1076
  · refine to_an (pc := 9) rw_170_9 rfl (to_c (pc := 10) rw_170_10 (x := (2 : Int32)) rfl rfl (s_v (pc := 11) rw_170_11 (dp0 hd (by decide)) (ls0 := [.ref 77, .int (2 : Int32)]) rfl (Nat.le_of_ble_eq_true rfl) (Nat.le_of_ble_eq_true rfl) rfl (to_rc rfl rfl rfl (g_o hG rfl)) rfl (to_an (pc := 0) rw_152_0 rfl (to_in (pc := 1) rw_152_1 rfl (s_pI (pc := 2) rw_152_2 hG rfl (fun M1078 W1077 => ?_))))))
    have hG1079 := g_wf hG W1077 rfl rfl (by decide)
    have F1080 := FR.w F0 W1077 (show 77 = 77 ∧ (4 = 4 ∨ 4 = 5 ∨ 7 ≤ 4 ∧ 4 ≤ 10 ∨ 14 ≤ 4 ∧ 4 ≤ 16 ∨ 4 = 25) ∨ 80 ≤ 77 ∧ 77 ≤ 84 ∧ 8 ≤ 4 ∨ 85 ≤ 77 ∧ 77 ≤ 87 ∧ 12 ≤ 4 by decide)
    refine to_an (pc := 5) rw_152_5 rfl (to_an (pc := 6) rw_152_6 rfl ?_)
    have c_1081 : M1078.2.1 77 10 = (M.2.1 77 10) := (W_n W1077 (by decide) rfl)
    have b_1082 := g_b hG (a := 77) (i := 10) (lo := 0) (hi := 500) rfl rfl
    refine tt_gI (pc := 7) rw_152_7 (g_o hG1079 rfl) (v := (M.2.1 77 10)) c_1081 (s_pI (pc := 10) rw_152_10 hG1079 rfl (fun M1084 W1083 => ?_))
    have hG1085 := g_wf hG1079 W1083 rfl rfl (by decide)
    have F1086 := FR.w F1080 W1083 (show 77 = 77 ∧ (5 = 4 ∨ 5 = 5 ∨ 7 ≤ 5 ∧ 5 ≤ 10 ∨ 14 ≤ 5 ∧ 5 ≤ 16 ∨ 5 = 25) ∨ 80 ≤ 77 ∧ 77 ≤ 84 ∧ 8 ≤ 5 ∨ 85 ≤ 77 ∧ 77 ≤ 87 ∧ 12 ≤ 5 by decide)
    refine to_c (pc := 13) rw_152_13 (x := (0 : Int32)) rfl rfl (s_r1 (pc := 14) rw_152_14 (A := 0) rfl (by decide) (s_r1 (pc := 14) rw_170_14 (A := 0) rfl (by decide) ?_))
    have k_1087 : (0 : Int32).toInt = 0 := rfl
    have c_1088 : M1084.2.1 77 7 = (M.2.1 77 7) := (W_n W1083 (by decide) (W_n W1077 (by decide) rfl))
    have t_1089 : (M1084.2.1 77 7).toInt = (M.2.1 77 7).toInt := congrArg Int32.toInt c_1088
    have c_1090 : M1084.2.1 77 6 = (M.2.1 77 6) := (W_n W1083 (by decide) (W_n W1077 (by decide) rfl))
    have t_1091 : (M1084.2.1 77 6).toInt = (M.2.1 77 6).toInt := congrArg Int32.toInt c_1090
    have c_1092 : M1084.2.1 77 8 = (M.2.1 77 8) := (W_n W1083 (by decide) (W_n W1077 (by decide) rfl))
    have b_1093 := g_b hG (a := 77) (i := 8) (lo := 0) (hi := 5) rfl rfl
    have t_1094 : (M1084.2.1 77 8).toInt = (M.2.1 77 8).toInt := congrArg Int32.toInt c_1092
    have j_1095 := (FA_f (fun a i z => W_n W1083 (tg_231 a i z) rfl) (FA_f (fun a i z => W_n W1077 (tg_232 a i z) rfl) q2))
    have j_1096 := (WR_f (fun a i z => W_n W1083 (by /-r77,5-/ omega) rfl) (WR_f (fun a i z => W_n W1077 (by /-r77,4-/ omega) rfl) q3))
    exact h (0 : Int32) M1084 hG1085 F1086 (by decide) (by decide) (by omega) (by omega) (by omega) j_1095 j_1096
set_option maxRecDepth 4000 in
set_option maxHeartbeats 0 in
theorem T_171_0 {X : mm_X} {d : Nat} {M : mm_M} {Q : Option Value → mm_M → Prop} (hX : g_X X) (hd : 3 ≤ d) (q1 : (M.2.1 77 7).toInt ≤ (M.2.1 77 6).toInt) (q2 : WR M) (h : ∀ (r : Int32) (M1 : mm_M), g_G M1 → FR md_wl M M1 → (0 ≤ r.toInt) → (r.toInt ≤ 1) → ((M1.2.1 77 7).toInt ≤ (M1.2.1 77 6).toInt) → ((M.2.1 77 7).toInt ≤ (M1.2.1 77 7).toInt) → (r.toInt = 1 → (M1.2.1 77 8).toInt = 0 ∨ (M.2.1 77 7).toInt < (M1.2.1 77 7).toInt) → WR M1 → Q (some (.int r)) M1) : ∀ nn9 : Nat, (∀ (N : mm_M) (x1 : Int32) (x2 : Int32) (x3 : Int32) (y4 : Int64), g_G N → FR md_wl M N → (0 ≤ x1.toInt) → (x1.toInt ≤ 7) → (x1.toInt < (N.2.1 77 15).toInt) → ((N.2.1 77 16).toInt ≤ 11) → ((N.2.1 77 7).toInt ≤ (N.2.1 77 6).toInt) → ((M.2.1 77 7).toInt ≤ (N.2.1 77 7).toInt) → ((N.2.1 81 (8 + (x1.toInt).toNat)).toInt = 3) → ((N.2.1 77 8).toInt = 0 ∨ (M.2.1 77 7).toInt < (N.2.1 77 7).toInt) → (WR N) → 6 * (500 - (N.2.1 77 7).toInt) + (N.2.1 77 8).toInt < (nn9 : Int) → mm_T X d 170 106 [.ref 77, .int x1, .int x2, .int x3, .long y4, .null] [] N Q) := by
  intro nn9
  induction nn9 with
  | zero =>
    intro N x1 x2 x3 y4 hG F0 g1 g2 g3 g4 g5 g6 g7 g8 g9 hm
    have b_1 := g_b hG (a := 77) (i := 7) (lo := 0) (hi := 500) rfl rfl
    have b_2 := g_b hG (a := 77) (i := 8) (lo := 0) (hi := 5) rfl rfl
    have b_3 := g_b hG (a := 77) (i := 15) (lo := 0) (hi := 8) rfl rfl
    have b_4 := g_b hG (a := 77) (i := 16) (lo := 0) (hi := 12) rfl rfl
    have b_5 := g_b hG (a := 77) (i := 6) (lo := 0) (hi := 500) rfl rfl
    exfalso; omega
  | succ nn9 ih =>
    intro N x1 x2 x3 y4 hG F0 g1 g2 g3 g4 g5 g6 g7 g8 g9 hm
    have b_6 := g_b hG (a := 77) (i := 7) (lo := 0) (hi := 500) rfl rfl
    have b_7 := g_b hG (a := 77) (i := 8) (lo := 0) (hi := 5) rfl rfl
    have b_8 := g_b hG (a := 77) (i := 15) (lo := 0) (hi := 8) rfl rfl
    have b_9 := g_b hG (a := 77) (i := 16) (lo := 0) (hi := 12) rfl rfl
    have b_10 := g_b hG (a := 77) (i := 6) (lo := 0) (hi := 500) rfl rfl
    refine to_an (pc := 106) rw_171_106 rfl (tt_gI (pc := 107) rw_171_107 (g_o hG rfl) (v := (N.2.1 77 8)) rfl (to_c (pc := 110) rw_171_110 (x := (3 : Int32)) rfl rfl (b_cne (pc := 111) rw_171_111 (A := (N.2.1 77 8).toInt) (B := 3) rfl rfl (fun h11 => ?_) (fun h11 => ?_))))
    · refine to_an (pc := 218) rw_171_218 rfl (to_c (pc := 219) rw_171_219 (x := (59 : Int32)) rfl rfl (s_v (pc := 221) rw_171_221 (dp0 hd (by decide)) (ls0 := [.ref 77, .int (59 : Int32)]) rfl (Nat.le_of_ble_eq_true rfl) (Nat.le_of_ble_eq_true rfl) rfl (to_rc rfl rfl rfl (g_o hG rfl)) rfl (to_an (pc := 0) rw_159_0 rfl (tt_gI (pc := 1) rw_159_1 (g_o hG rfl) (v := (N.2.1 77 8)) rfl (to_c (pc := 4) rw_159_4 (x := (4 : Int32)) rfl rfl (b_cne (pc := 5) rw_159_5 (A := (N.2.1 77 8).toInt) (B := 4) rfl rfl (fun h12 => ?_) (fun h12 => ?_)))))))
      · refine to_c (pc := 20) rw_159_20 (x := (0 : Int32)) rfl rfl (s_r1 (pc := 21) rw_159_21 (A := 0) rfl (by decide) (b_ieq_t (pc := 224) rw_171_224 (A := 0) rfl (by decide) (to_an (pc := 246) rw_171_246 rfl (s_gR (pc := 247) rw_171_247 hG rfl (v := 85) rfl (to_c (pc := 250) rw_171_250 (x := (12 : Int32)) rfl rfl (to_an (pc := 252) rw_171_252 rfl (tt_gI (pc := 253) rw_171_253 (g_o hG rfl) (v := (N.2.1 77 16)) rfl (s_add (pc := 256) rw_171_256 (A := 12) (B := (N.2.1 77 16).toInt) rfl rfl (by omega) (fun v13 e14 => to_in (pc := 257) rw_171_257 rfl (s_ias (pc := 258) rw_171_258 hG rfl (n := 24) rfl (A := v13.toInt) rfl (by omega) (by omega) (fun M16 W15 => ?_)))))))))))
        have hG17 := g_wf hG W15 rfl rfl (by decide)
        have F18 := FR.w F0 W15 (show 85 = 77 ∧ ((v13.toInt).toNat = 4 ∨ (v13.toInt).toNat = 5 ∨ 7 ≤ (v13.toInt).toNat ∧ (v13.toInt).toNat ≤ 10 ∨ (v13.toInt).toNat = 16) ∨ 85 ≤ 85 ∧ 85 ≤ 87 ∧ 12 ≤ (v13.toInt).toNat by omega)
        have j_19 := (WR_f (fun a i z => W_n W15 (by /-r85-/ omega) rfl) g9)
        have c_20 : M16.2.1 77 16 = (N.2.1 77 16) := (W_n W15 (fun z => absurd z.1 (by decide)) rfl)
        have t_21 : (M16.2.1 77 16).toInt = (N.2.1 77 16).toInt := congrArg Int32.toInt c_20
        have c_22 : M16.2.1 77 15 = (N.2.1 77 15) := (W_n W15 (fun z => absurd z.1 (by decide)) rfl)
        have t_23 : (M16.2.1 77 15).toInt = (N.2.1 77 15).toInt := congrArg Int32.toInt c_22
        have j_24 : (M16.2.1 81 (8 + (x1.toInt).toNat)).toInt = 3 := by rw [(W_n W15 (by omega) rfl)]; exact g7
        refine to_an (pc := 259) rw_171_259 rfl (s_gR (pc := 260) rw_171_260 hG17 rfl (v := 86) rfl (to_c (pc := 263) rw_171_263 (x := (12 : Int32)) rfl rfl (to_an (pc := 265) rw_171_265 rfl (tt_gI (pc := 266) rw_171_266 (g_o hG17 rfl) (v := (N.2.1 77 16)) c_20 (s_add (pc := 269) rw_171_269 (A := 12) (B := (N.2.1 77 16).toInt) rfl rfl (by omega) (fun v25 e26 => to_in (pc := 270) rw_171_270 rfl (s_ias (pc := 271) rw_171_271 hG17 rfl (n := 24) rfl (A := v25.toInt) rfl (by omega) (by omega) (fun M28 W27 => ?_))))))))
        have hG29 := g_w hG17 W27 (A := x1.toInt) rfl (lo := 0) (hi := 7) rfl rfl (by omega) (by decide)
        have F30 := FR.w F18 W27 (show 86 = 77 ∧ ((v25.toInt).toNat = 4 ∨ (v25.toInt).toNat = 5 ∨ 7 ≤ (v25.toInt).toNat ∧ (v25.toInt).toNat ≤ 10 ∨ (v25.toInt).toNat = 16) ∨ 85 ≤ 86 ∧ 86 ≤ 87 ∧ 12 ≤ (v25.toInt).toNat by omega)
        refine to_an (pc := 272) rw_171_272 rfl (s_gR (pc := 273) rw_171_273 hG29 rfl (v := 87) rfl (to_c (pc := 276) rw_171_276 (x := (12 : Int32)) rfl rfl (to_an (pc := 278) rw_171_278 rfl ?_)))
        have c_31 : M28.2.1 77 16 = (N.2.1 77 16) := (W_n W27 (fun z => absurd z.1 (by decide)) c_20)
        refine tt_gI (pc := 279) rw_171_279 (g_o hG29 rfl) (v := (N.2.1 77 16)) c_31 (s_add (pc := 282) rw_171_282 (A := 12) (B := (N.2.1 77 16).toInt) rfl rfl (by omega) (fun v32 e33 => to_l (pc := 283) rw_171_283 rfl rfl rfl (s_las (pc := 285) rw_171_285 hG29 rfl (n := 24) rfl (A := v32.toInt) rfl (by omega) (by omega) (fun M35 W34 => ?_))))
        have hG36 := g_wl hG29 W34
        have F37 := FR.wl F30 W34 (show 87 = 77 ∧ ((v32.toInt).toNat = 4 ∨ (v32.toInt).toNat = 5 ∨ 7 ≤ (v32.toInt).toNat ∧ (v32.toInt).toNat ≤ 10 ∨ (v32.toInt).toNat = 16) ∨ 85 ≤ 87 ∧ 87 ≤ 87 ∧ 12 ≤ (v32.toInt).toNat by omega)
        refine to_an (pc := 286) rw_171_286 rfl (to_dupr (pc := 287) rw_171_287 ?_)
        have c_38 : M35.2.1 77 16 = (N.2.1 77 16) := (W_l W34 c_31)
        refine tt_gI (pc := 288) rw_171_288 (g_o hG36 rfl) (v := (N.2.1 77 16)) c_38 (to_c (pc := 291) rw_171_291 (x := (1 : Int32)) rfl rfl (s_add (pc := 292) rw_171_292 (A := (N.2.1 77 16).toInt) (B := 1) rfl rfl (by omega) (fun v39 e40 => s_pI (pc := 293) rw_171_293 hG36 rfl (fun M42 W41 => ?_))))
        have hG43 := g_w hG36 W41 (A := v39.toInt) rfl (lo := 0) (hi := 12) rfl rfl (by omega) (by decide)
        have F44 := FR.w F37 W41 (show 77 = 77 ∧ (16 = 4 ∨ 16 = 5 ∨ 7 ≤ 16 ∧ 16 ≤ 10 ∨ 16 = 16) ∨ 85 ≤ 77 ∧ 77 ≤ 87 ∧ 12 ≤ 16 by decide)
        have j_45 := WR_word (M1 := M42) (n := ((M16.2.1 77 16).toInt).toNat) (f := x1) j_19 (by omega) (W_n W41 (by omega) (W_l W34 (W_n W27 (by omega) rfl))) (fun i => (W_n W41 (by omega) (W_l W34 (W_n W27 (by omega) rfl)))) (fun i z => (W_n W41 (by omega) (W_l W34 (W_n W27 (by omega) rfl)))) (by rw [show 12 + ((M16.2.1 77 16).toInt).toNat = (v25.toInt).toNat by omega]; exact (W_n W41 (by omega) (W_l W34 (W_e W27)))) (by have z := congrArg Int32.toInt (W_e W41); omega) (by omega) j_24
        refine to_c (pc := 296) rw_171_296 (x := (1 : Int32)) rfl rfl (s_r1 (pc := 297) rw_171_297 (A := 1) rfl (by decide) ?_)
        have k_46 : (1 : Int32).toInt = 1 := rfl
        have c_47 : M42.2.1 77 7 = (N.2.1 77 7) := (W_n W41 (by decide) (W_l W34 (W_n W27 (fun z => absurd z.1 (by decide)) (W_n W15 (fun z => absurd z.1 (by decide)) rfl))))
        have t_48 : (M42.2.1 77 7).toInt = (N.2.1 77 7).toInt := congrArg Int32.toInt c_47
        have c_49 : M42.2.1 77 6 = (N.2.1 77 6) := (W_n W41 (by decide) (W_l W34 (W_n W27 (fun z => absurd z.1 (by decide)) (W_n W15 (fun z => absurd z.1 (by decide)) rfl))))
        have t_50 : (M42.2.1 77 6).toInt = (N.2.1 77 6).toInt := congrArg Int32.toInt c_49
        have c_51 : M42.2.1 77 8 = (N.2.1 77 8) := (W_n W41 (by decide) (W_l W34 (W_n W27 (fun z => absurd z.1 (by decide)) (W_n W15 (fun z => absurd z.1 (by decide)) rfl))))
        have t_52 : (M42.2.1 77 8).toInt = (N.2.1 77 8).toInt := congrArg Int32.toInt c_51
        exact h (1 : Int32) M42 hG43 F44 (by decide) (by decide) (by omega) (by omega) (by omega) j_45
      · refine to_an (pc := 8) rw_159_8 rfl (tt_gI (pc := 9) rw_159_9 (g_o hG rfl) (v := (N.2.1 77 9)) rfl (to_in (pc := 12) rw_159_12 rfl (b_cne (pc := 13) rw_159_13 (A := (N.2.1 77 9).toInt) (B := 59) rfl rfl (fun h53 => ?_) (fun h53 => ?_))))
        · refine to_c (pc := 20) rw_159_20 (x := (0 : Int32)) rfl rfl (s_r1 (pc := 21) rw_159_21 (A := 0) rfl (by decide) (b_ieq_t (pc := 224) rw_171_224 (A := 0) rfl (by decide) (to_an (pc := 246) rw_171_246 rfl (s_gR (pc := 247) rw_171_247 hG rfl (v := 85) rfl (to_c (pc := 250) rw_171_250 (x := (12 : Int32)) rfl rfl (to_an (pc := 252) rw_171_252 rfl (tt_gI (pc := 253) rw_171_253 (g_o hG rfl) (v := (N.2.1 77 16)) rfl (s_add (pc := 256) rw_171_256 (A := 12) (B := (N.2.1 77 16).toInt) rfl rfl (by omega) (fun v54 e55 => to_in (pc := 257) rw_171_257 rfl (s_ias (pc := 258) rw_171_258 hG rfl (n := 24) rfl (A := v54.toInt) rfl (by omega) (by omega) (fun M57 W56 => ?_)))))))))))
          have hG58 := g_wf hG W56 rfl rfl (by decide)
          have F59 := FR.w F0 W56 (show 85 = 77 ∧ ((v54.toInt).toNat = 4 ∨ (v54.toInt).toNat = 5 ∨ 7 ≤ (v54.toInt).toNat ∧ (v54.toInt).toNat ≤ 10 ∨ (v54.toInt).toNat = 16) ∨ 85 ≤ 85 ∧ 85 ≤ 87 ∧ 12 ≤ (v54.toInt).toNat by omega)
          have j_60 := (WR_f (fun a i z => W_n W56 (by /-r85-/ omega) rfl) g9)
          have c_61 : M57.2.1 77 16 = (N.2.1 77 16) := (W_n W56 (fun z => absurd z.1 (by decide)) rfl)
          have t_62 : (M57.2.1 77 16).toInt = (N.2.1 77 16).toInt := congrArg Int32.toInt c_61
          have c_63 : M57.2.1 77 15 = (N.2.1 77 15) := (W_n W56 (fun z => absurd z.1 (by decide)) rfl)
          have t_64 : (M57.2.1 77 15).toInt = (N.2.1 77 15).toInt := congrArg Int32.toInt c_63
          have j_65 : (M57.2.1 81 (8 + (x1.toInt).toNat)).toInt = 3 := by rw [(W_n W56 (by omega) rfl)]; exact g7
          refine to_an (pc := 259) rw_171_259 rfl (s_gR (pc := 260) rw_171_260 hG58 rfl (v := 86) rfl (to_c (pc := 263) rw_171_263 (x := (12 : Int32)) rfl rfl (to_an (pc := 265) rw_171_265 rfl (tt_gI (pc := 266) rw_171_266 (g_o hG58 rfl) (v := (N.2.1 77 16)) c_61 (s_add (pc := 269) rw_171_269 (A := 12) (B := (N.2.1 77 16).toInt) rfl rfl (by omega) (fun v66 e67 => to_in (pc := 270) rw_171_270 rfl (s_ias (pc := 271) rw_171_271 hG58 rfl (n := 24) rfl (A := v66.toInt) rfl (by omega) (by omega) (fun M69 W68 => ?_))))))))
          have hG70 := g_w hG58 W68 (A := x1.toInt) rfl (lo := 0) (hi := 7) rfl rfl (by omega) (by decide)
          have F71 := FR.w F59 W68 (show 86 = 77 ∧ ((v66.toInt).toNat = 4 ∨ (v66.toInt).toNat = 5 ∨ 7 ≤ (v66.toInt).toNat ∧ (v66.toInt).toNat ≤ 10 ∨ (v66.toInt).toNat = 16) ∨ 85 ≤ 86 ∧ 86 ≤ 87 ∧ 12 ≤ (v66.toInt).toNat by omega)
          refine to_an (pc := 272) rw_171_272 rfl (s_gR (pc := 273) rw_171_273 hG70 rfl (v := 87) rfl (to_c (pc := 276) rw_171_276 (x := (12 : Int32)) rfl rfl (to_an (pc := 278) rw_171_278 rfl ?_)))
          have c_72 : M69.2.1 77 16 = (N.2.1 77 16) := (W_n W68 (fun z => absurd z.1 (by decide)) c_61)
          refine tt_gI (pc := 279) rw_171_279 (g_o hG70 rfl) (v := (N.2.1 77 16)) c_72 (s_add (pc := 282) rw_171_282 (A := 12) (B := (N.2.1 77 16).toInt) rfl rfl (by omega) (fun v73 e74 => to_l (pc := 283) rw_171_283 rfl rfl rfl (s_las (pc := 285) rw_171_285 hG70 rfl (n := 24) rfl (A := v73.toInt) rfl (by omega) (by omega) (fun M76 W75 => ?_))))
          have hG77 := g_wl hG70 W75
          have F78 := FR.wl F71 W75 (show 87 = 77 ∧ ((v73.toInt).toNat = 4 ∨ (v73.toInt).toNat = 5 ∨ 7 ≤ (v73.toInt).toNat ∧ (v73.toInt).toNat ≤ 10 ∨ (v73.toInt).toNat = 16) ∨ 85 ≤ 87 ∧ 87 ≤ 87 ∧ 12 ≤ (v73.toInt).toNat by omega)
          refine to_an (pc := 286) rw_171_286 rfl (to_dupr (pc := 287) rw_171_287 ?_)
          have c_79 : M76.2.1 77 16 = (N.2.1 77 16) := (W_l W75 c_72)
          refine tt_gI (pc := 288) rw_171_288 (g_o hG77 rfl) (v := (N.2.1 77 16)) c_79 (to_c (pc := 291) rw_171_291 (x := (1 : Int32)) rfl rfl (s_add (pc := 292) rw_171_292 (A := (N.2.1 77 16).toInt) (B := 1) rfl rfl (by omega) (fun v80 e81 => s_pI (pc := 293) rw_171_293 hG77 rfl (fun M83 W82 => ?_))))
          have hG84 := g_w hG77 W82 (A := v80.toInt) rfl (lo := 0) (hi := 12) rfl rfl (by omega) (by decide)
          have F85 := FR.w F78 W82 (show 77 = 77 ∧ (16 = 4 ∨ 16 = 5 ∨ 7 ≤ 16 ∧ 16 ≤ 10 ∨ 16 = 16) ∨ 85 ≤ 77 ∧ 77 ≤ 87 ∧ 12 ≤ 16 by decide)
          have j_86 := WR_word (M1 := M83) (n := ((M57.2.1 77 16).toInt).toNat) (f := x1) j_60 (by omega) (W_n W82 (by omega) (W_l W75 (W_n W68 (by omega) rfl))) (fun i => (W_n W82 (by omega) (W_l W75 (W_n W68 (by omega) rfl)))) (fun i z => (W_n W82 (by omega) (W_l W75 (W_n W68 (by omega) rfl)))) (by rw [show 12 + ((M57.2.1 77 16).toInt).toNat = (v66.toInt).toNat by omega]; exact (W_n W82 (by omega) (W_l W75 (W_e W68)))) (by have z := congrArg Int32.toInt (W_e W82); omega) (by omega) j_65
          refine to_c (pc := 296) rw_171_296 (x := (1 : Int32)) rfl rfl (s_r1 (pc := 297) rw_171_297 (A := 1) rfl (by decide) ?_)
          have k_87 : (1 : Int32).toInt = 1 := rfl
          have c_88 : M83.2.1 77 7 = (N.2.1 77 7) := (W_n W82 (by decide) (W_l W75 (W_n W68 (fun z => absurd z.1 (by decide)) (W_n W56 (fun z => absurd z.1 (by decide)) rfl))))
          have t_89 : (M83.2.1 77 7).toInt = (N.2.1 77 7).toInt := congrArg Int32.toInt c_88
          have c_90 : M83.2.1 77 6 = (N.2.1 77 6) := (W_n W82 (by decide) (W_l W75 (W_n W68 (fun z => absurd z.1 (by decide)) (W_n W56 (fun z => absurd z.1 (by decide)) rfl))))
          have t_91 : (M83.2.1 77 6).toInt = (N.2.1 77 6).toInt := congrArg Int32.toInt c_90
          have c_92 : M83.2.1 77 8 = (N.2.1 77 8) := (W_n W82 (by decide) (W_l W75 (W_n W68 (fun z => absurd z.1 (by decide)) (W_n W56 (fun z => absurd z.1 (by decide)) rfl))))
          have t_93 : (M83.2.1 77 8).toInt = (N.2.1 77 8).toInt := congrArg Int32.toInt c_92
          exact h (1 : Int32) M83 hG84 F85 (by decide) (by decide) (by omega) (by omega) (by omega) j_86
        · refine to_c (pc := 16) rw_159_16 (x := (1 : Int32)) rfl rfl (to_go (pc := 17) rw_159_17 (s_r1 (pc := 21) rw_159_21 (A := 1) rfl (by decide) (b_ieq_f (pc := 224) rw_171_224 (A := 1) rfl (by decide) (to_in (pc := 227) rw_171_227 rfl (to_an (pc := 228) rw_171_228 rfl (s_gR (pc := 229) rw_171_229 hG rfl (v := 84) rfl (to_c (pc := 232) rw_171_232 (x := (8 : Int32)) rfl rfl (to_in (pc := 234) rw_171_234 rfl (s_add (pc := 235) rw_171_235 (A := 8) (B := x1.toInt) rfl rfl (by omega) (fun v94 e95 => s_ial (pc := 236) rw_171_236 hG rfl (n := 16) rfl rfl (A := v94.toInt) rfl (by omega) (by omega) (lo := 0) (hi := 24) rfl rfl (fun v96 w_97 _ _ => b_cge (pc := 237) rw_171_237 (A := x3.toInt) (B := v96.toInt) rfl rfl (fun h98 => ?_) (fun h98 => ?_))))))))))))
          · refine to_an (pc := 246) rw_171_246 rfl (s_gR (pc := 247) rw_171_247 hG rfl (v := 85) rfl (to_c (pc := 250) rw_171_250 (x := (12 : Int32)) rfl rfl (to_an (pc := 252) rw_171_252 rfl (tt_gI (pc := 253) rw_171_253 (g_o hG rfl) (v := (N.2.1 77 16)) rfl (s_add (pc := 256) rw_171_256 (A := 12) (B := (N.2.1 77 16).toInt) rfl rfl (by omega) (fun v99 e100 => to_in (pc := 257) rw_171_257 rfl (s_ias (pc := 258) rw_171_258 hG rfl (n := 24) rfl (A := v99.toInt) rfl (by omega) (by omega) (fun M102 W101 => ?_))))))))
            have hG103 := g_wf hG W101 rfl rfl (by decide)
            have F104 := FR.w F0 W101 (show 85 = 77 ∧ ((v99.toInt).toNat = 4 ∨ (v99.toInt).toNat = 5 ∨ 7 ≤ (v99.toInt).toNat ∧ (v99.toInt).toNat ≤ 10 ∨ (v99.toInt).toNat = 16) ∨ 85 ≤ 85 ∧ 85 ≤ 87 ∧ 12 ≤ (v99.toInt).toNat by omega)
            have j_105 := (WR_f (fun a i z => W_n W101 (by /-r85-/ omega) rfl) g9)
            have c_106 : M102.2.1 77 16 = (N.2.1 77 16) := (W_n W101 (fun z => absurd z.1 (by decide)) rfl)
            have t_107 : (M102.2.1 77 16).toInt = (N.2.1 77 16).toInt := congrArg Int32.toInt c_106
            have c_108 : M102.2.1 77 15 = (N.2.1 77 15) := (W_n W101 (fun z => absurd z.1 (by decide)) rfl)
            have t_109 : (M102.2.1 77 15).toInt = (N.2.1 77 15).toInt := congrArg Int32.toInt c_108
            have j_110 : (M102.2.1 81 (8 + (x1.toInt).toNat)).toInt = 3 := by rw [(W_n W101 (by omega) rfl)]; exact g7
            refine to_an (pc := 259) rw_171_259 rfl (s_gR (pc := 260) rw_171_260 hG103 rfl (v := 86) rfl (to_c (pc := 263) rw_171_263 (x := (12 : Int32)) rfl rfl (to_an (pc := 265) rw_171_265 rfl (tt_gI (pc := 266) rw_171_266 (g_o hG103 rfl) (v := (N.2.1 77 16)) c_106 (s_add (pc := 269) rw_171_269 (A := 12) (B := (N.2.1 77 16).toInt) rfl rfl (by omega) (fun v111 e112 => to_in (pc := 270) rw_171_270 rfl (s_ias (pc := 271) rw_171_271 hG103 rfl (n := 24) rfl (A := v111.toInt) rfl (by omega) (by omega) (fun M114 W113 => ?_))))))))
            have hG115 := g_w hG103 W113 (A := x1.toInt) rfl (lo := 0) (hi := 7) rfl rfl (by omega) (by decide)
            have F116 := FR.w F104 W113 (show 86 = 77 ∧ ((v111.toInt).toNat = 4 ∨ (v111.toInt).toNat = 5 ∨ 7 ≤ (v111.toInt).toNat ∧ (v111.toInt).toNat ≤ 10 ∨ (v111.toInt).toNat = 16) ∨ 85 ≤ 86 ∧ 86 ≤ 87 ∧ 12 ≤ (v111.toInt).toNat by omega)
            refine to_an (pc := 272) rw_171_272 rfl (s_gR (pc := 273) rw_171_273 hG115 rfl (v := 87) rfl (to_c (pc := 276) rw_171_276 (x := (12 : Int32)) rfl rfl (to_an (pc := 278) rw_171_278 rfl ?_)))
            have c_117 : M114.2.1 77 16 = (N.2.1 77 16) := (W_n W113 (fun z => absurd z.1 (by decide)) c_106)
            refine tt_gI (pc := 279) rw_171_279 (g_o hG115 rfl) (v := (N.2.1 77 16)) c_117 (s_add (pc := 282) rw_171_282 (A := 12) (B := (N.2.1 77 16).toInt) rfl rfl (by omega) (fun v118 e119 => to_l (pc := 283) rw_171_283 rfl rfl rfl (s_las (pc := 285) rw_171_285 hG115 rfl (n := 24) rfl (A := v118.toInt) rfl (by omega) (by omega) (fun M121 W120 => ?_))))
            have hG122 := g_wl hG115 W120
            have F123 := FR.wl F116 W120 (show 87 = 77 ∧ ((v118.toInt).toNat = 4 ∨ (v118.toInt).toNat = 5 ∨ 7 ≤ (v118.toInt).toNat ∧ (v118.toInt).toNat ≤ 10 ∨ (v118.toInt).toNat = 16) ∨ 85 ≤ 87 ∧ 87 ≤ 87 ∧ 12 ≤ (v118.toInt).toNat by omega)
            refine to_an (pc := 286) rw_171_286 rfl (to_dupr (pc := 287) rw_171_287 ?_)
            have c_124 : M121.2.1 77 16 = (N.2.1 77 16) := (W_l W120 c_117)
            refine tt_gI (pc := 288) rw_171_288 (g_o hG122 rfl) (v := (N.2.1 77 16)) c_124 (to_c (pc := 291) rw_171_291 (x := (1 : Int32)) rfl rfl (s_add (pc := 292) rw_171_292 (A := (N.2.1 77 16).toInt) (B := 1) rfl rfl (by omega) (fun v125 e126 => s_pI (pc := 293) rw_171_293 hG122 rfl (fun M128 W127 => ?_))))
            have hG129 := g_w hG122 W127 (A := v125.toInt) rfl (lo := 0) (hi := 12) rfl rfl (by omega) (by decide)
            have F130 := FR.w F123 W127 (show 77 = 77 ∧ (16 = 4 ∨ 16 = 5 ∨ 7 ≤ 16 ∧ 16 ≤ 10 ∨ 16 = 16) ∨ 85 ≤ 77 ∧ 77 ≤ 87 ∧ 12 ≤ 16 by decide)
            have j_131 := WR_word (M1 := M128) (n := ((M102.2.1 77 16).toInt).toNat) (f := x1) j_105 (by omega) (W_n W127 (by omega) (W_l W120 (W_n W113 (by omega) rfl))) (fun i => (W_n W127 (by omega) (W_l W120 (W_n W113 (by omega) rfl)))) (fun i z => (W_n W127 (by omega) (W_l W120 (W_n W113 (by omega) rfl)))) (by rw [show 12 + ((M102.2.1 77 16).toInt).toNat = (v111.toInt).toNat by omega]; exact (W_n W127 (by omega) (W_l W120 (W_e W113)))) (by have z := congrArg Int32.toInt (W_e W127); omega) (by omega) j_110
            refine to_c (pc := 296) rw_171_296 (x := (1 : Int32)) rfl rfl (s_r1 (pc := 297) rw_171_297 (A := 1) rfl (by decide) ?_)
            have k_132 : (1 : Int32).toInt = 1 := rfl
            have c_133 : M128.2.1 77 7 = (N.2.1 77 7) := (W_n W127 (by decide) (W_l W120 (W_n W113 (fun z => absurd z.1 (by decide)) (W_n W101 (fun z => absurd z.1 (by decide)) rfl))))
            have t_134 : (M128.2.1 77 7).toInt = (N.2.1 77 7).toInt := congrArg Int32.toInt c_133
            have c_135 : M128.2.1 77 6 = (N.2.1 77 6) := (W_n W127 (by decide) (W_l W120 (W_n W113 (fun z => absurd z.1 (by decide)) (W_n W101 (fun z => absurd z.1 (by decide)) rfl))))
            have t_136 : (M128.2.1 77 6).toInt = (N.2.1 77 6).toInt := congrArg Int32.toInt c_135
            have c_137 : M128.2.1 77 8 = (N.2.1 77 8) := (W_n W127 (by decide) (W_l W120 (W_n W113 (fun z => absurd z.1 (by decide)) (W_n W101 (fun z => absurd z.1 (by decide)) rfl))))
            have t_138 : (M128.2.1 77 8).toInt = (N.2.1 77 8).toInt := congrArg Int32.toInt c_137
            exact h (1 : Int32) M128 hG129 F130 (by decide) (by decide) (by omega) (by omega) (by omega) j_131
          · refine to_an (pc := 240) rw_171_240 rfl (to_c (pc := 241) rw_171_241 (x := (5 : Int32)) rfl rfl (s_v (pc := 242) rw_171_242 (dp0 hd (by decide)) (ls0 := [.ref 77, .int (5 : Int32)]) rfl (Nat.le_of_ble_eq_true rfl) (Nat.le_of_ble_eq_true rfl) rfl (to_rc rfl rfl rfl (g_o hG rfl)) rfl (to_an (pc := 0) rw_152_0 rfl (to_in (pc := 1) rw_152_1 rfl (s_pI (pc := 2) rw_152_2 hG rfl (fun M140 W139 => ?_))))))
            have hG141 := g_wf hG W139 rfl rfl (by decide)
            have F142 := FR.w F0 W139 (show 77 = 77 ∧ (4 = 4 ∨ 4 = 5 ∨ 7 ≤ 4 ∧ 4 ≤ 10 ∨ 4 = 16) ∨ 85 ≤ 77 ∧ 77 ≤ 87 ∧ 12 ≤ 4 by decide)
            refine to_an (pc := 5) rw_152_5 rfl (to_an (pc := 6) rw_152_6 rfl ?_)
            have c_143 : M140.2.1 77 10 = (N.2.1 77 10) := (W_n W139 (by decide) rfl)
            have b_144 := g_b hG (a := 77) (i := 10) (lo := 0) (hi := 500) rfl rfl
            refine tt_gI (pc := 7) rw_152_7 (g_o hG141 rfl) (v := (N.2.1 77 10)) c_143 (s_pI (pc := 10) rw_152_10 hG141 rfl (fun M146 W145 => ?_))
            have hG147 := g_wf hG141 W145 rfl rfl (by decide)
            have F148 := FR.w F142 W145 (show 77 = 77 ∧ (5 = 4 ∨ 5 = 5 ∨ 7 ≤ 5 ∧ 5 ≤ 10 ∨ 5 = 16) ∨ 85 ≤ 77 ∧ 77 ≤ 87 ∧ 12 ≤ 5 by decide)
            refine to_c (pc := 13) rw_152_13 (x := (0 : Int32)) rfl rfl (s_r1 (pc := 14) rw_152_14 (A := 0) rfl (by decide) (s_r1 (pc := 245) rw_171_245 (A := 0) rfl (by decide) ?_))
            have k_149 : (0 : Int32).toInt = 0 := rfl
            have c_150 : M146.2.1 77 7 = (N.2.1 77 7) := (W_n W145 (by decide) (W_n W139 (by decide) rfl))
            have t_151 : (M146.2.1 77 7).toInt = (N.2.1 77 7).toInt := congrArg Int32.toInt c_150
            have c_152 : M146.2.1 77 6 = (N.2.1 77 6) := (W_n W145 (by decide) (W_n W139 (by decide) rfl))
            have t_153 : (M146.2.1 77 6).toInt = (N.2.1 77 6).toInt := congrArg Int32.toInt c_152
            have c_154 : M146.2.1 77 8 = (N.2.1 77 8) := (W_n W145 (by decide) (W_n W139 (by decide) rfl))
            have t_155 : (M146.2.1 77 8).toInt = (N.2.1 77 8).toInt := congrArg Int32.toInt c_154
            have j_156 := (WR_f (fun a i z => W_n W145 (by /-r77,5-/ omega) rfl) (WR_f (fun a i z => W_n W139 (by /-r77,4-/ omega) rfl) g9))
            exact h (0 : Int32) M146 hG147 F148 (by decide) (by decide) (by omega) (by omega) (by omega) j_156
    · refine to_in (pc := 114) rw_171_114 rfl (to_an (pc := 115) rw_171_115 rfl (s_gR (pc := 116) rw_171_116 hG rfl (v := 84) rfl (to_c (pc := 119) rw_171_119 (x := (8 : Int32)) rfl rfl (to_in (pc := 121) rw_171_121 rfl (s_add (pc := 122) rw_171_122 (A := 8) (B := x1.toInt) rfl rfl (by omega) (fun v157 e158 => s_ial (pc := 123) rw_171_123 hG rfl (n := 16) rfl rfl (A := v157.toInt) rfl (by omega) (by omega) (lo := 0) (hi := 24) rfl rfl (fun v159 w_160 _ _ => b_ceq (pc := 124) rw_171_124 (A := x3.toInt) (B := v159.toInt) rfl rfl (fun h161 => ?_) (fun h161 => ?_))))))))
      · refine to_an (pc := 153) rw_171_153 rfl (to_c (pc := 154) rw_171_154 (x := (2 : Int32)) rfl rfl (s_v (pc := 155) rw_171_155 (dp0 hd (by decide)) (ls0 := [.ref 77, .int (2 : Int32)]) rfl (Nat.le_of_ble_eq_true rfl) (Nat.le_of_ble_eq_true rfl) rfl (to_rc rfl rfl rfl (g_o hG rfl)) rfl (to_an (pc := 0) rw_152_0 rfl (to_in (pc := 1) rw_152_1 rfl (s_pI (pc := 2) rw_152_2 hG rfl (fun M163 W162 => ?_))))))
        have hG164 := g_wf hG W162 rfl rfl (by decide)
        have F165 := FR.w F0 W162 (show 77 = 77 ∧ (4 = 4 ∨ 4 = 5 ∨ 7 ≤ 4 ∧ 4 ≤ 10 ∨ 4 = 16) ∨ 85 ≤ 77 ∧ 77 ≤ 87 ∧ 12 ≤ 4 by decide)
        refine to_an (pc := 5) rw_152_5 rfl (to_an (pc := 6) rw_152_6 rfl ?_)
        have c_166 : M163.2.1 77 10 = (N.2.1 77 10) := (W_n W162 (by decide) rfl)
        have b_167 := g_b hG (a := 77) (i := 10) (lo := 0) (hi := 500) rfl rfl
        refine tt_gI (pc := 7) rw_152_7 (g_o hG164 rfl) (v := (N.2.1 77 10)) c_166 (s_pI (pc := 10) rw_152_10 hG164 rfl (fun M169 W168 => ?_))
        have hG170 := g_wf hG164 W168 rfl rfl (by decide)
        have F171 := FR.w F165 W168 (show 77 = 77 ∧ (5 = 4 ∨ 5 = 5 ∨ 7 ≤ 5 ∧ 5 ≤ 10 ∨ 5 = 16) ∨ 85 ≤ 77 ∧ 77 ≤ 87 ∧ 12 ≤ 5 by decide)
        refine to_c (pc := 13) rw_152_13 (x := (0 : Int32)) rfl rfl (s_r1 (pc := 14) rw_152_14 (A := 0) rfl (by decide) (s_r1 (pc := 158) rw_171_158 (A := 0) rfl (by decide) ?_))
        have k_172 : (0 : Int32).toInt = 0 := rfl
        have c_173 : M169.2.1 77 7 = (N.2.1 77 7) := (W_n W168 (by decide) (W_n W162 (by decide) rfl))
        have t_174 : (M169.2.1 77 7).toInt = (N.2.1 77 7).toInt := congrArg Int32.toInt c_173
        have c_175 : M169.2.1 77 6 = (N.2.1 77 6) := (W_n W168 (by decide) (W_n W162 (by decide) rfl))
        have t_176 : (M169.2.1 77 6).toInt = (N.2.1 77 6).toInt := congrArg Int32.toInt c_175
        have c_177 : M169.2.1 77 8 = (N.2.1 77 8) := (W_n W168 (by decide) (W_n W162 (by decide) rfl))
        have t_178 : (M169.2.1 77 8).toInt = (N.2.1 77 8).toInt := congrArg Int32.toInt c_177
        have j_179 := (WR_f (fun a i z => W_n W168 (by /-r77,5-/ omega) rfl) (WR_f (fun a i z => W_n W162 (by /-r77,4-/ omega) rfl) g9))
        exact h (0 : Int32) M169 hG170 F171 (by decide) (by decide) (by omega) (by omega) (by omega) j_179
      · refine to_an (pc := 127) rw_171_127 rfl (tt_gI (pc := 128) rw_171_128 (g_o hG rfl) (v := (N.2.1 77 9)) rfl (to_an (pc := 131) rw_171_131 rfl (s_gR (pc := 132) rw_171_132 hG rfl (v := 83) rfl (to_c (pc := 135) rw_171_135 (x := (8 : Int32)) rfl rfl (to_in (pc := 137) rw_171_137 rfl (s_add (pc := 138) rw_171_138 (A := 8) (B := x1.toInt) rfl rfl (by omega) (fun v180 e181 => s_ial (pc := 139) rw_171_139 hG rfl (n := 16) rfl rfl (A := v180.toInt) rfl (by omega) (by omega) (lo := 0) (hi := 63) rfl rfl (fun v182 w_183 _ _ => to_an (pc := 140) rw_171_140 rfl (s_gR (pc := 141) rw_171_141 hG rfl (v := 82) rfl (to_c (pc := 144) rw_171_144 (x := (8 : Int32)) rfl rfl (to_in (pc := 146) rw_171_146 rfl ?_)))))))))))
        refine s_add (pc := 147) rw_171_147 (A := 8) (B := x1.toInt) rfl rfl (by omega) (fun v184 e185 => s_ial (pc := 148) rw_171_148 hG rfl (n := 16) rfl rfl (A := v184.toInt) rfl (by omega) (by omega) (lo := 0) (hi := 59) rfl rfl (fun v186 w_187 _ _ => s_sub (pc := 149) rw_171_149 (A := v182.toInt) (B := v186.toInt) rfl rfl (by omega) (fun v188 e189 => b_cle (pc := 150) rw_171_150 (A := (N.2.1 77 9).toInt) (B := v188.toInt) rfl rfl (fun h190 => ?_) (fun h190 => ?_))))
        · refine to_l (pc := 159) rw_171_159 rfl rfl rfl (to_an (pc := 161) rw_171_161 rfl (s_gR (pc := 162) rw_171_162 hG rfl (v := 82) rfl (to_c (pc := 165) rw_171_165 (x := (8 : Int32)) rfl rfl (to_in (pc := 167) rw_171_167 rfl (s_add (pc := 168) rw_171_168 (A := 8) (B := x1.toInt) rfl rfl (by omega) (fun v191 e192 => s_ial (pc := 169) rw_171_169 hG rfl (n := 16) rfl rfl (A := v191.toInt) rfl (by omega) (by omega) (lo := 0) (hi := 59) rfl rfl (fun v193 w_194 _ _ => to_an (pc := 170) rw_171_170 rfl (tt_gI (pc := 171) rw_171_171 (g_o hG rfl) (v := (N.2.1 77 9)) rfl ?_))))))))
          have i_197 := i_of (x := (N.2.1 77 9))
          refine s_add (pc := 174) rw_171_174 (A := v193.toInt) (B := (N.2.1 77 9).toInt) rfl rfl (by omega) (fun v195 e196 => s_s (pc := 175) rw_171_175 (dp0 hd (by decide)) (ls0 := [.long y4, .null, .int v195]) rfl (Nat.le_of_ble_eq_true rfl) (Nat.le_of_ble_eq_true rfl) rfl (to_rcs rfl rfl) rfl (to_ln (pc := 0) rw_150_0 rfl rfl rfl (to_in (pc := 1) rw_150_1 rfl (s_anyS (pc := 2) rw_150_2 (fun _ _ => rfl) (fun l198 => s_cl (pc := 3) rw_150_3 rfl (fun l199 => s_anyL (pc := 4) rw_150_4 (fun _ _ => rfl) (fun l200 => s_cl (pc := 5) rw_150_5 rfl (fun l201 => s_lcmp (pc := 6) rw_150_6 (fun v202 => b_ine (pc := 7) rw_150_7 (A := v202.toInt) rfl (fun h203 => ?_) (fun h203 => ?_))))))))))
          · refine to_c (pc := 14) rw_150_14 (x := (0 : Int32)) rfl rfl (s_r1 (pc := 15) rw_150_15 (A := 0) rfl (by decide) (b_ieq_t (pc := 178) rw_171_178 (A := 0) rfl (by decide) (to_l (pc := 187) rw_171_187 rfl rfl rfl (s_cl (pc := 189) rw_171_189 rfl (fun l204 => to_an (pc := 190) rw_171_190 rfl (s_gR (pc := 191) rw_171_191 hG rfl (v := 82) rfl (to_c (pc := 194) rw_171_194 (x := (8 : Int32)) rfl rfl (to_in (pc := 196) rw_171_196 rfl (s_add (pc := 197) rw_171_197 (A := 8) (B := x1.toInt) rfl rfl (by omega) (fun v205 e206 => s_ial (pc := 198) rw_171_198 hG rfl (n := 16) rfl rfl (A := v205.toInt) rfl (by omega) (by omega) (lo := 0) (hi := 59) rfl rfl (fun v207 w_208 _ _ => to_an (pc := 199) rw_171_199 rfl ?_)))))))))))
            refine tt_gI (pc := 200) rw_171_200 (g_o hG rfl) (v := (N.2.1 77 9)) rfl (s_add (pc := 203) rw_171_203 (A := v207.toInt) (B := (N.2.1 77 9).toInt) rfl rfl (by omega) (fun v209 e210 => s_anyS (pc := 204) rw_171_204 (fun _ _ => rfl) (fun l211 => s_anyL (pc := 205) rw_171_205 (fun _ _ => rfl) (fun l212 => to_ls (pc := 206) rw_171_206 (ls2 := [.ref 77, .int x1, .int x2, .int x3, .long l212, .null]) rfl rfl (s_incx (pc := 208) rw_171_208 (ls2 := fun v => [.ref 77, .int x1, .int x2, .int v, .long l212, .null]) rfl rfl (fun _ => rfl) (fun v213 => to_an (pc := 211) rw_171_211 rfl (s_v (pc := 212) rw_171_212 (dp0 hd (by decide)) (ls0 := [.ref 77]) rfl (Nat.le_of_ble_eq_true rfl) (Nat.le_of_ble_eq_true rfl) rfl (to_rc rfl rfl rfl (g_o hG rfl)) rfl (C_156 hX (dp1 hd (by decide)) hG (by omega)  (fun M220 hG216 F215 p_217 p_218 p_219 => ?_)))))))))
            have F221 := FR.c F0 F215 tg_58
            have b_222 := g_b hG216 (a := 77) (i := 7) (lo := 0) (hi := 500) rfl rfl
            have c_223 : M220.2.1 77 6 = (N.2.1 77 6) := (F_n F215 (show ¬ (77 = 77 ∧ 7 ≤ 6 ∧ 6 ≤ 10) by decide) rfl)
            have t_224 : (M220.2.1 77 6).toInt = (N.2.1 77 6).toInt := congrArg Int32.toInt c_223
            have b_225 := g_b hG216 (a := 77) (i := 8) (lo := 0) (hi := 5) rfl rfl
            refine to_go (pc := 215) rw_171_215 ?_
            have c_226 : M220.2.1 77 15 = (N.2.1 77 15) := (F_n F215 (show ¬ (77 = 77 ∧ 7 ≤ 15 ∧ 15 ≤ 10) by decide) rfl)
            have t_227 : (M220.2.1 77 15).toInt = (N.2.1 77 15).toInt := congrArg Int32.toInt c_226
            have c_228 : M220.2.1 77 16 = (N.2.1 77 16) := (F_n F215 (show ¬ (77 = 77 ∧ 7 ≤ 16 ∧ 16 ≤ 10) by decide) rfl)
            have t_229 : (M220.2.1 77 16).toInt = (N.2.1 77 16).toInt := congrArg Int32.toInt c_228
            have j_230 : (M220.2.1 81 (8 + (x1.toInt).toNat)).toInt = 3 := by rw [(F_n F215 (show ¬ (81 = 77 ∧ 7 ≤ (8 + (x1.toInt).toNat) ∧ (8 + (x1.toInt).toNat) ≤ 10) by omega) rfl)]; exact g7
            have j_231 := (WR_f (tg_222 F215) g9)
            exact ih M220 x1 x2 v213 l212 hG216 F221 (by omega) (by omega) (by omega) (by omega) (by omega) (by omega) j_230 (by omega) j_231 (by omega)
          · refine to_c (pc := 10) rw_150_10 (x := (1 : Int32)) rfl rfl (to_go (pc := 11) rw_150_11 (s_r1 (pc := 15) rw_150_15 (A := 1) rfl (by decide) (b_ieq_f (pc := 178) rw_171_178 (A := 1) rfl (by decide) (to_an (pc := 181) rw_171_181 rfl (to_c (pc := 182) rw_171_182 (x := (3 : Int32)) rfl rfl (s_v (pc := 183) rw_171_183 (dp0 hd (by decide)) (ls0 := [.ref 77, .int (3 : Int32)]) rfl (Nat.le_of_ble_eq_true rfl) (Nat.le_of_ble_eq_true rfl) rfl (to_rc rfl rfl rfl (g_o hG rfl)) rfl (to_an (pc := 0) rw_152_0 rfl (to_in (pc := 1) rw_152_1 rfl (s_pI (pc := 2) rw_152_2 hG rfl (fun M233 W232 => ?_))))))))))
            have hG234 := g_wf hG W232 rfl rfl (by decide)
            have F235 := FR.w F0 W232 (show 77 = 77 ∧ (4 = 4 ∨ 4 = 5 ∨ 7 ≤ 4 ∧ 4 ≤ 10 ∨ 4 = 16) ∨ 85 ≤ 77 ∧ 77 ≤ 87 ∧ 12 ≤ 4 by decide)
            refine to_an (pc := 5) rw_152_5 rfl (to_an (pc := 6) rw_152_6 rfl ?_)
            have c_236 : M233.2.1 77 10 = (N.2.1 77 10) := (W_n W232 (by decide) rfl)
            have b_237 := g_b hG (a := 77) (i := 10) (lo := 0) (hi := 500) rfl rfl
            refine tt_gI (pc := 7) rw_152_7 (g_o hG234 rfl) (v := (N.2.1 77 10)) c_236 (s_pI (pc := 10) rw_152_10 hG234 rfl (fun M239 W238 => ?_))
            have hG240 := g_wf hG234 W238 rfl rfl (by decide)
            have F241 := FR.w F235 W238 (show 77 = 77 ∧ (5 = 4 ∨ 5 = 5 ∨ 7 ≤ 5 ∧ 5 ≤ 10 ∨ 5 = 16) ∨ 85 ≤ 77 ∧ 77 ≤ 87 ∧ 12 ≤ 5 by decide)
            refine to_c (pc := 13) rw_152_13 (x := (0 : Int32)) rfl rfl (s_r1 (pc := 14) rw_152_14 (A := 0) rfl (by decide) (s_r1 (pc := 186) rw_171_186 (A := 0) rfl (by decide) ?_))
            have k_242 : (0 : Int32).toInt = 0 := rfl
            have c_243 : M239.2.1 77 7 = (N.2.1 77 7) := (W_n W238 (by decide) (W_n W232 (by decide) rfl))
            have t_244 : (M239.2.1 77 7).toInt = (N.2.1 77 7).toInt := congrArg Int32.toInt c_243
            have c_245 : M239.2.1 77 6 = (N.2.1 77 6) := (W_n W238 (by decide) (W_n W232 (by decide) rfl))
            have t_246 : (M239.2.1 77 6).toInt = (N.2.1 77 6).toInt := congrArg Int32.toInt c_245
            have c_247 : M239.2.1 77 8 = (N.2.1 77 8) := (W_n W238 (by decide) (W_n W232 (by decide) rfl))
            have t_248 : (M239.2.1 77 8).toInt = (N.2.1 77 8).toInt := congrArg Int32.toInt c_247
            have j_249 := (WR_f (fun a i z => W_n W238 (by /-r77,5-/ omega) rfl) (WR_f (fun a i z => W_n W232 (by /-r77,4-/ omega) rfl) g9))
            exact h (0 : Int32) M239 hG240 F241 (by decide) (by decide) (by omega) (by omega) (by omega) j_249
        · refine to_an (pc := 153) rw_171_153 rfl (to_c (pc := 154) rw_171_154 (x := (2 : Int32)) rfl rfl (s_v (pc := 155) rw_171_155 (dp0 hd (by decide)) (ls0 := [.ref 77, .int (2 : Int32)]) rfl (Nat.le_of_ble_eq_true rfl) (Nat.le_of_ble_eq_true rfl) rfl (to_rc rfl rfl rfl (g_o hG rfl)) rfl (to_an (pc := 0) rw_152_0 rfl (to_in (pc := 1) rw_152_1 rfl (s_pI (pc := 2) rw_152_2 hG rfl (fun M251 W250 => ?_))))))
          have hG252 := g_wf hG W250 rfl rfl (by decide)
          have F253 := FR.w F0 W250 (show 77 = 77 ∧ (4 = 4 ∨ 4 = 5 ∨ 7 ≤ 4 ∧ 4 ≤ 10 ∨ 4 = 16) ∨ 85 ≤ 77 ∧ 77 ≤ 87 ∧ 12 ≤ 4 by decide)
          refine to_an (pc := 5) rw_152_5 rfl (to_an (pc := 6) rw_152_6 rfl ?_)
          have c_254 : M251.2.1 77 10 = (N.2.1 77 10) := (W_n W250 (by decide) rfl)
          have b_255 := g_b hG (a := 77) (i := 10) (lo := 0) (hi := 500) rfl rfl
          refine tt_gI (pc := 7) rw_152_7 (g_o hG252 rfl) (v := (N.2.1 77 10)) c_254 (s_pI (pc := 10) rw_152_10 hG252 rfl (fun M257 W256 => ?_))
          have hG258 := g_wf hG252 W256 rfl rfl (by decide)
          have F259 := FR.w F253 W256 (show 77 = 77 ∧ (5 = 4 ∨ 5 = 5 ∨ 7 ≤ 5 ∧ 5 ≤ 10 ∨ 5 = 16) ∨ 85 ≤ 77 ∧ 77 ≤ 87 ∧ 12 ≤ 5 by decide)
          refine to_c (pc := 13) rw_152_13 (x := (0 : Int32)) rfl rfl (s_r1 (pc := 14) rw_152_14 (A := 0) rfl (by decide) (s_r1 (pc := 158) rw_171_158 (A := 0) rfl (by decide) ?_))
          have k_260 : (0 : Int32).toInt = 0 := rfl
          have c_261 : M257.2.1 77 7 = (N.2.1 77 7) := (W_n W256 (by decide) (W_n W250 (by decide) rfl))
          have t_262 : (M257.2.1 77 7).toInt = (N.2.1 77 7).toInt := congrArg Int32.toInt c_261
          have c_263 : M257.2.1 77 6 = (N.2.1 77 6) := (W_n W256 (by decide) (W_n W250 (by decide) rfl))
          have t_264 : (M257.2.1 77 6).toInt = (N.2.1 77 6).toInt := congrArg Int32.toInt c_263
          have c_265 : M257.2.1 77 8 = (N.2.1 77 8) := (W_n W256 (by decide) (W_n W250 (by decide) rfl))
          have t_266 : (M257.2.1 77 8).toInt = (N.2.1 77 8).toInt := congrArg Int32.toInt c_265
          have j_267 := (WR_f (fun a i z => W_n W256 (by /-r77,5-/ omega) rfl) (WR_f (fun a i z => W_n W250 (by /-r77,4-/ omega) rfl) g9))
          exact h (0 : Int32) M257 hG258 F259 (by decide) (by decide) (by omega) (by omega) (by omega) j_267
set_option maxRecDepth 4000 in
set_option maxHeartbeats 0 in
theorem C_171 {X : mm_X} {d : Nat} {M : mm_M} {Q : Option Value → mm_M → Prop} (hX : g_X X) (hd : 3 ≤ d) (hG : g_G M) (q1 : (M.2.1 77 7).toInt ≤ (M.2.1 77 6).toInt) (q2 : WR M) (h : ∀ (r : Int32) (M1 : mm_M), g_G M1 → FR md_wl M M1 → (0 ≤ r.toInt) → (r.toInt ≤ 1) → ((M1.2.1 77 7).toInt ≤ (M1.2.1 77 6).toInt) → ((M.2.1 77 7).toInt ≤ (M1.2.1 77 7).toInt) → (r.toInt = 1 → (M1.2.1 77 8).toInt = 0 ∨ (M.2.1 77 7).toInt < (M1.2.1 77 7).toInt) → WR M1 → Q (some (.int r)) M1) : mm_T X d 170 0 [.ref 77, .null, .null, .null, .null, .null] [] M Q := by
  have F0 : FR md_wl M M := FR.rf
  have b_268 := g_b hG (a := 77) (i := 7) (lo := 0) (hi := 500) rfl rfl
  have b_269 := g_b hG (a := 77) (i := 6) (lo := 0) (hi := 500) rfl rfl
  refine to_an (pc := 0) rw_171_0 rfl ?_
  have b_270 := g_b hG (a := 77) (i := 16) (lo := 0) (hi := 12) rfl rfl
  refine tt_gI (pc := 1) rw_171_1 (g_o hG rfl) (v := (M.2.1 77 16)) rfl (to_c (pc := 4) rw_171_4 (x := (12 : Int32)) rfl rfl (b_cne (pc := 6) rw_171_6 (A := (M.2.1 77 16).toInt) (B := 12) rfl rfl (fun h271 => ?_) (fun h271 => ?_)))
  · refine to_an (pc := 15) rw_171_15 rfl (s_v (pc := 16) rw_171_16 (dp0 hd (by decide)) (ls0 := [.ref 77]) rfl (Nat.le_of_ble_eq_true rfl) (Nat.le_of_ble_eq_true rfl) rfl (to_rc rfl rfl rfl (g_o hG rfl)) rfl (C_156 hX (dp1 hd (by decide)) hG (by omega)  (fun M277 hG273 F272 p_274 p_275 p_276 => ?_)))
    have F278 := FR.c F0 F272 tg_58
    have b_279 := g_b hG273 (a := 77) (i := 7) (lo := 0) (hi := 500) rfl rfl
    have c_280 : M277.2.1 77 6 = (M.2.1 77 6) := (F_n F272 (show ¬ (77 = 77 ∧ 7 ≤ 6 ∧ 6 ≤ 10) by decide) rfl)
    have t_281 : (M277.2.1 77 6).toInt = (M.2.1 77 6).toInt := congrArg Int32.toInt c_280
    have b_282 := g_b hG273 (a := 77) (i := 8) (lo := 0) (hi := 5) rfl rfl
    refine to_an (pc := 19) rw_171_19 rfl (tt_gI (pc := 20) rw_171_20 (g_o hG273 rfl) (v := (M277.2.1 77 8)) rfl (to_c (pc := 23) rw_171_23 (x := (2 : Int32)) rfl rfl (b_ceq (pc := 24) rw_171_24 (A := (M277.2.1 77 8).toInt) (B := 2) rfl rfl (fun h283 => ?_) (fun h283 => ?_))))
    · refine to_an (pc := 33) rw_171_33 rfl (to_an (pc := 34) rw_171_34 rfl (tt_gI (pc := 35) rw_171_35 (g_o hG273 rfl) (v := (M277.2.1 77 9)) rfl (s_v (pc := 38) rw_171_38 (dp0 hd (by decide)) (ls0 := [.ref 77, .int (M277.2.1 77 9), .null]) rfl (Nat.le_of_ble_eq_true rfl) (Nat.le_of_ble_eq_true rfl) rfl (to_rc rfl rfl rfl (g_o hG273 rfl)) rfl ?_)))
      have c_284 : M277.2.1 77 15 = (M.2.1 77 15) := (F_n F272 (show ¬ (77 = 77 ∧ 7 ≤ 15 ∧ 15 ≤ 10) by decide) rfl)
      have b_285 := g_b hG (a := 77) (i := 15) (lo := 0) (hi := 8) rfl rfl
      have t_286 : (M277.2.1 77 15).toInt = (M.2.1 77 15).toInt := congrArg Int32.toInt c_284
      refine C_166 hX (dp1 hd (by decide)) hG273 (n := (M277.2.1 77 9)) (fun r287 M293 hG289 F288 p_290 p_291 p_292 => ?_)
      have F294 := FR.c F278 F288 tg_59
      refine to_isn (pc := 41) rw_171_41 (ls2 := [.ref 77, .int r287, .null, .null, .null, .null]) rfl rfl (to_in (pc := 42) rw_171_42 rfl (b_ilt (pc := 43) rw_171_43 (A := r287.toInt) rfl (fun h295 => ?_) (fun h295 => ?_)))
      · refine to_an (pc := 59) rw_171_59 rfl (to_c (pc := 60) rw_171_60 (x := (4 : Int32)) rfl rfl (s_v (pc := 61) rw_171_61 (dp0 hd (by decide)) (ls0 := [.ref 77, .int (4 : Int32)]) rfl (Nat.le_of_ble_eq_true rfl) (Nat.le_of_ble_eq_true rfl) rfl (to_rc rfl rfl rfl (g_o hG289 rfl)) rfl (to_an (pc := 0) rw_152_0 rfl (to_in (pc := 1) rw_152_1 rfl (s_pI (pc := 2) rw_152_2 hG289 rfl (fun M297 W296 => ?_))))))
        have hG298 := g_wf hG289 W296 rfl rfl (by decide)
        have F299 := FR.w F294 W296 (show 77 = 77 ∧ (4 = 4 ∨ 4 = 5 ∨ 7 ≤ 4 ∧ 4 ≤ 10 ∨ 4 = 16) ∨ 85 ≤ 77 ∧ 77 ≤ 87 ∧ 12 ≤ 4 by decide)
        refine to_an (pc := 5) rw_152_5 rfl (to_an (pc := 6) rw_152_6 rfl ?_)
        have c_300 : M297.2.1 77 10 = (M277.2.1 77 10) := (W_n W296 (by decide) (F_n F288 (show ¬ (77 < 0) by decide) rfl))
        have b_301 := g_b hG273 (a := 77) (i := 10) (lo := 0) (hi := 500) rfl rfl
        refine tt_gI (pc := 7) rw_152_7 (g_o hG298 rfl) (v := (M277.2.1 77 10)) c_300 (s_pI (pc := 10) rw_152_10 hG298 rfl (fun M303 W302 => ?_))
        have hG304 := g_wf hG298 W302 rfl rfl (by decide)
        have F305 := FR.w F299 W302 (show 77 = 77 ∧ (5 = 4 ∨ 5 = 5 ∨ 7 ≤ 5 ∧ 5 ≤ 10 ∨ 5 = 16) ∨ 85 ≤ 77 ∧ 77 ≤ 87 ∧ 12 ≤ 5 by decide)
        refine to_c (pc := 13) rw_152_13 (x := (0 : Int32)) rfl rfl (s_r1 (pc := 14) rw_152_14 (A := 0) rfl (by decide) (s_r1 (pc := 64) rw_171_64 (A := 0) rfl (by decide) ?_))
        have k_306 : (0 : Int32).toInt = 0 := rfl
        have c_307 : M303.2.1 77 7 = (M277.2.1 77 7) := (W_n W302 (by decide) (W_n W296 (by decide) (F_n F288 (show ¬ (77 < 0) by decide) rfl)))
        have t_308 : (M303.2.1 77 7).toInt = (M277.2.1 77 7).toInt := congrArg Int32.toInt c_307
        have c_309 : M303.2.1 77 6 = (M.2.1 77 6) := (W_n W302 (by decide) (W_n W296 (by decide) (F_n F288 (show ¬ (77 < 0) by decide) c_280)))
        have t_310 : (M303.2.1 77 6).toInt = (M.2.1 77 6).toInt := congrArg Int32.toInt c_309
        have c_311 : M303.2.1 77 8 = (M277.2.1 77 8) := (W_n W302 (by decide) (W_n W296 (by decide) (F_n F288 (show ¬ (77 < 0) by decide) rfl)))
        have t_312 : (M303.2.1 77 8).toInt = (M277.2.1 77 8).toInt := congrArg Int32.toInt c_311
        have j_313 := (WR_f (fun a i z => W_n W302 (by /-r77,5-/ omega) rfl) (WR_f (fun a i z => W_n W296 (by /-r77,4-/ omega) rfl) (WR_f (tg_219 F288) (WR_f (tg_222 F272) q2))))
        exact h (0 : Int32) M303 hG304 F305 (by decide) (by decide) (by omega) (by omega) (by omega) j_313
      · refine to_an (pc := 46) rw_171_46 rfl (s_gR (pc := 47) rw_171_47 hG289 rfl (v := 81) rfl (to_c (pc := 50) rw_171_50 (x := (8 : Int32)) rfl rfl (to_in (pc := 52) rw_171_52 rfl (s_add (pc := 53) rw_171_53 (A := 8) (B := r287.toInt) rfl rfl (by omega) (fun v314 e315 => s_ial (pc := 54) rw_171_54 hG289 rfl (n := 16) rfl rfl (A := v314.toInt) rfl (by omega) (by omega) (lo := 0) (hi := 3) rfl rfl (fun v316 w_317 _ _ => to_c (pc := 55) rw_171_55 (x := (3 : Int32)) rfl rfl (b_ceq (pc := 56) rw_171_56 (A := v316.toInt) (B := 3) rfl rfl (fun h318 => ?_) (fun h318 => ?_))))))))
        · refine to_an (pc := 65) rw_171_65 rfl (s_v (pc := 66) rw_171_66 (dp0 hd (by decide)) (ls0 := [.ref 77]) rfl (Nat.le_of_ble_eq_true rfl) (Nat.le_of_ble_eq_true rfl) rfl (to_rc rfl rfl rfl (g_o hG289 rfl)) rfl ?_)
          have c_319 : M293.2.1 77 7 = (M277.2.1 77 7) := (F_n F288 (show ¬ (77 < 0) by decide) rfl)
          have t_320 : (M293.2.1 77 7).toInt = (M277.2.1 77 7).toInt := congrArg Int32.toInt c_319
          have c_321 : M293.2.1 77 6 = (M.2.1 77 6) := (F_n F288 (show ¬ (77 < 0) by decide) c_280)
          have t_322 : (M293.2.1 77 6).toInt = (M.2.1 77 6).toInt := congrArg Int32.toInt c_321
          refine C_156 hX (dp1 hd (by decide)) hG289 (by omega)  (fun M328 hG324 F323 p_325 p_326 p_327 => ?_)
          have F329 := FR.c F294 F323 tg_58
          have b_330 := g_b hG324 (a := 77) (i := 7) (lo := 0) (hi := 500) rfl rfl
          have c_331 : M328.2.1 77 6 = (M.2.1 77 6) := (F_n F323 (show ¬ (77 = 77 ∧ 7 ≤ 6 ∧ 6 ≤ 10) by decide) c_321)
          have t_332 : (M328.2.1 77 6).toInt = (M.2.1 77 6).toInt := congrArg Int32.toInt c_331
          have b_333 := g_b hG324 (a := 77) (i := 8) (lo := 0) (hi := 5) rfl rfl
          refine to_an (pc := 69) rw_171_69 rfl (s_v (pc := 70) rw_171_70 (dp0 hd (by decide)) (ls0 := [.ref 77]) rfl (Nat.le_of_ble_eq_true rfl) (Nat.le_of_ble_eq_true rfl) rfl (to_rc rfl rfl rfl (g_o hG324 rfl)) rfl (C_169 hX (dp1 hd (by decide)) hG324  (fun r334 M339 hG336 F335 p_337 p_338 => ?_)))
          have F340 := FR.c F329 F335 tg_60
          refine b_ine (pc := 73) rw_171_73 (A := r334.toInt) rfl (fun h341 => ?_) (fun h341 => ?_)
          · refine to_an (pc := 78) rw_171_78 rfl ?_
            have c_342 : M339.2.1 77 9 = (M328.2.1 77 9) := (F_n F335 (show ¬ (77 = 77 ∧ (9 = 4 ∨ 9 = 5)) by decide) rfl)
            refine tt_gI (pc := 79) rw_171_79 (g_o hG336 rfl) (v := (M328.2.1 77 9)) c_342 (to_isn (pc := 82) rw_171_82 (ls2 := [.ref 77, .int r287, .int (M328.2.1 77 9), .null, .null, .null]) rfl rfl (to_an (pc := 83) rw_171_83 rfl (s_v (pc := 84) rw_171_84 (dp0 hd (by decide)) (ls0 := [.ref 77]) rfl (Nat.le_of_ble_eq_true rfl) (Nat.le_of_ble_eq_true rfl) rfl (to_rc rfl rfl rfl (g_o hG336 rfl)) rfl ?_)))
            have c_343 : M339.2.1 77 7 = (M328.2.1 77 7) := (F_n F335 (show ¬ (77 = 77 ∧ (7 = 4 ∨ 7 = 5)) by decide) rfl)
            have t_344 : (M339.2.1 77 7).toInt = (M328.2.1 77 7).toInt := congrArg Int32.toInt c_343
            have c_345 : M339.2.1 77 6 = (M.2.1 77 6) := (F_n F335 (show ¬ (77 = 77 ∧ (6 = 4 ∨ 6 = 5)) by decide) c_331)
            have t_346 : (M339.2.1 77 6).toInt = (M.2.1 77 6).toInt := congrArg Int32.toInt c_345
            refine C_156 hX (dp1 hd (by decide)) hG336 (by omega)  (fun M352 hG348 F347 p_349 p_350 p_351 => ?_)
            have F353 := FR.c F340 F347 tg_58
            have b_354 := g_b hG348 (a := 77) (i := 7) (lo := 0) (hi := 500) rfl rfl
            have c_355 : M352.2.1 77 6 = (M.2.1 77 6) := (F_n F347 (show ¬ (77 = 77 ∧ 7 ≤ 6 ∧ 6 ≤ 10) by decide) c_345)
            have t_356 : (M352.2.1 77 6).toInt = (M.2.1 77 6).toInt := congrArg Int32.toInt c_355
            have b_357 := g_b hG348 (a := 77) (i := 8) (lo := 0) (hi := 5) rfl rfl
            refine to_an (pc := 87) rw_171_87 rfl (tt_gI (pc := 88) rw_171_88 (g_o hG348 rfl) (v := (M352.2.1 77 8)) rfl (to_c (pc := 91) rw_171_91 (x := (3 : Int32)) rfl rfl (b_ceq (pc := 92) rw_171_92 (A := (M352.2.1 77 8).toInt) (B := 3) rfl rfl (fun h358 => ?_) (fun h358 => ?_))))
            · refine to_c (pc := 101) rw_171_101 (x := (0 : Int32)) rfl rfl (to_isn (pc := 102) rw_171_102 (ls2 := [.ref 77, .int r287, .int (M328.2.1 77 9), .int (0 : Int32), .null, .null]) rfl rfl (s_cl (pc := 103) rw_171_103 rfl (fun l359 => to_ls (pc := 104) rw_171_104 (ls2 := [.ref 77, .int r287, .int (M328.2.1 77 9), .int (0 : Int32), .long l359, .null]) rfl rfl ?_)))
              have k_360 : (0 : Int32).toInt = 0 := rfl
              have c_361 : M352.2.1 77 15 = (M.2.1 77 15) := (F_n F347 (show ¬ (77 = 77 ∧ 7 ≤ 15 ∧ 15 ≤ 10) by decide) (F_n F335 (show ¬ (77 = 77 ∧ (15 = 4 ∨ 15 = 5)) by decide) (F_n F323 (show ¬ (77 = 77 ∧ 7 ≤ 15 ∧ 15 ≤ 10) by decide) (F_n F288 (show ¬ (77 < 0) by decide) c_284))))
              have t_362 : (M352.2.1 77 15).toInt = (M.2.1 77 15).toInt := congrArg Int32.toInt c_361
              have c_363 : M352.2.1 77 16 = (M.2.1 77 16) := (F_n F347 (show ¬ (77 = 77 ∧ 7 ≤ 16 ∧ 16 ≤ 10) by decide) (F_n F335 (show ¬ (77 = 77 ∧ (16 = 4 ∨ 16 = 5)) by decide) (F_n F323 (show ¬ (77 = 77 ∧ 7 ≤ 16 ∧ 16 ≤ 10) by decide) (F_n F288 (show ¬ (77 < 0) by decide) (F_n F272 (show ¬ (77 = 77 ∧ 7 ≤ 16 ∧ 16 ≤ 10) by decide) rfl)))))
              have t_364 : (M352.2.1 77 16).toInt = (M.2.1 77 16).toInt := congrArg Int32.toInt c_363
              have j_365 : (M352.2.1 81 (8 + (r287.toInt).toNat)).toInt = 3 := by rw [show 8 + (r287.toInt).toNat = (v314.toInt).toNat by omega, (F_n F347 (show ¬ (81 = 77 ∧ 7 ≤ ((v314.toInt).toNat) ∧ ((v314.toInt).toNat) ≤ 10) by omega) (F_n F335 (show ¬ (81 = 77 ∧ (((v314.toInt).toNat) = 4 ∨ ((v314.toInt).toNat) = 5)) by omega) (F_n F323 (show ¬ (81 = 77 ∧ 7 ≤ ((v314.toInt).toNat) ∧ ((v314.toInt).toNat) ≤ 10) by omega) w_317)))]; omega
              have j_366 := (WR_f (tg_222 F347) (WR_f (tg_223 F335) (WR_f (tg_222 F323) (WR_f (tg_219 F288) (WR_f (tg_222 F272) q2)))))
              exact (T_171_0 hX hd q1 q2 h ((6 * (500 - (M352.2.1 77 7).toInt) + (M352.2.1 77 8).toInt).toNat + 1)) M352 r287 (M328.2.1 77 9) (0 : Int32) l359 hG348 F353 (by omega) (by omega) (by omega) (by omega) (by omega) (by omega) j_365 (by omega) j_366 (by omega)
            · refine to_an (pc := 95) rw_171_95 rfl (to_c (pc := 96) rw_171_96 (x := (1 : Int32)) rfl rfl (s_v (pc := 97) rw_171_97 (dp0 hd (by decide)) (ls0 := [.ref 77, .int (1 : Int32)]) rfl (Nat.le_of_ble_eq_true rfl) (Nat.le_of_ble_eq_true rfl) rfl (to_rc rfl rfl rfl (g_o hG348 rfl)) rfl (to_an (pc := 0) rw_152_0 rfl (to_in (pc := 1) rw_152_1 rfl (s_pI (pc := 2) rw_152_2 hG348 rfl (fun M368 W367 => ?_))))))
              have hG369 := g_wf hG348 W367 rfl rfl (by decide)
              have F370 := FR.w F353 W367 (show 77 = 77 ∧ (4 = 4 ∨ 4 = 5 ∨ 7 ≤ 4 ∧ 4 ≤ 10 ∨ 4 = 16) ∨ 85 ≤ 77 ∧ 77 ≤ 87 ∧ 12 ≤ 4 by decide)
              refine to_an (pc := 5) rw_152_5 rfl (to_an (pc := 6) rw_152_6 rfl ?_)
              have c_371 : M368.2.1 77 10 = (M352.2.1 77 10) := (W_n W367 (by decide) rfl)
              have b_372 := g_b hG348 (a := 77) (i := 10) (lo := 0) (hi := 500) rfl rfl
              refine tt_gI (pc := 7) rw_152_7 (g_o hG369 rfl) (v := (M352.2.1 77 10)) c_371 (s_pI (pc := 10) rw_152_10 hG369 rfl (fun M374 W373 => ?_))
              have hG375 := g_wf hG369 W373 rfl rfl (by decide)
              have F376 := FR.w F370 W373 (show 77 = 77 ∧ (5 = 4 ∨ 5 = 5 ∨ 7 ≤ 5 ∧ 5 ≤ 10 ∨ 5 = 16) ∨ 85 ≤ 77 ∧ 77 ≤ 87 ∧ 12 ≤ 5 by decide)
              refine to_c (pc := 13) rw_152_13 (x := (0 : Int32)) rfl rfl (s_r1 (pc := 14) rw_152_14 (A := 0) rfl (by decide) (s_r1 (pc := 100) rw_171_100 (A := 0) rfl (by decide) ?_))
              have k_377 : (0 : Int32).toInt = 0 := rfl
              have c_378 : M374.2.1 77 7 = (M352.2.1 77 7) := (W_n W373 (by decide) (W_n W367 (by decide) rfl))
              have t_379 : (M374.2.1 77 7).toInt = (M352.2.1 77 7).toInt := congrArg Int32.toInt c_378
              have c_380 : M374.2.1 77 6 = (M.2.1 77 6) := (W_n W373 (by decide) (W_n W367 (by decide) c_355))
              have t_381 : (M374.2.1 77 6).toInt = (M.2.1 77 6).toInt := congrArg Int32.toInt c_380
              have c_382 : M374.2.1 77 8 = (M352.2.1 77 8) := (W_n W373 (by decide) (W_n W367 (by decide) rfl))
              have t_383 : (M374.2.1 77 8).toInt = (M352.2.1 77 8).toInt := congrArg Int32.toInt c_382
              have j_384 := (WR_f (fun a i z => W_n W373 (by /-r77,5-/ omega) rfl) (WR_f (fun a i z => W_n W367 (by /-r77,4-/ omega) rfl) (WR_f (tg_222 F347) (WR_f (tg_223 F335) (WR_f (tg_222 F323) (WR_f (tg_219 F288) (WR_f (tg_222 F272) q2)))))))
              exact h (0 : Int32) M374 hG375 F376 (by decide) (by decide) (by omega) (by omega) (by omega) j_384
          · refine to_c (pc := 76) rw_171_76 (x := (0 : Int32)) rfl rfl (s_r1 (pc := 77) rw_171_77 (A := 0) rfl (by decide) ?_)
            have k_385 : (0 : Int32).toInt = 0 := rfl
            have c_386 : M339.2.1 77 7 = (M328.2.1 77 7) := (F_n F335 (show ¬ (77 = 77 ∧ (7 = 4 ∨ 7 = 5)) by decide) rfl)
            have t_387 : (M339.2.1 77 7).toInt = (M328.2.1 77 7).toInt := congrArg Int32.toInt c_386
            have c_388 : M339.2.1 77 6 = (M.2.1 77 6) := (F_n F335 (show ¬ (77 = 77 ∧ (6 = 4 ∨ 6 = 5)) by decide) c_331)
            have t_389 : (M339.2.1 77 6).toInt = (M.2.1 77 6).toInt := congrArg Int32.toInt c_388
            have c_390 : M339.2.1 77 8 = (M328.2.1 77 8) := (F_n F335 (show ¬ (77 = 77 ∧ (8 = 4 ∨ 8 = 5)) by decide) rfl)
            have t_391 : (M339.2.1 77 8).toInt = (M328.2.1 77 8).toInt := congrArg Int32.toInt c_390
            have j_392 := (WR_f (tg_223 F335) (WR_f (tg_222 F323) (WR_f (tg_219 F288) (WR_f (tg_222 F272) q2))))
            exact h (0 : Int32) M339 hG336 F340 (by decide) (by decide) (by omega) (by omega) (by omega) j_392
        · refine to_an (pc := 59) rw_171_59 rfl (to_c (pc := 60) rw_171_60 (x := (4 : Int32)) rfl rfl (s_v (pc := 61) rw_171_61 (dp0 hd (by decide)) (ls0 := [.ref 77, .int (4 : Int32)]) rfl (Nat.le_of_ble_eq_true rfl) (Nat.le_of_ble_eq_true rfl) rfl (to_rc rfl rfl rfl (g_o hG289 rfl)) rfl (to_an (pc := 0) rw_152_0 rfl (to_in (pc := 1) rw_152_1 rfl (s_pI (pc := 2) rw_152_2 hG289 rfl (fun M394 W393 => ?_))))))
          have hG395 := g_wf hG289 W393 rfl rfl (by decide)
          have F396 := FR.w F294 W393 (show 77 = 77 ∧ (4 = 4 ∨ 4 = 5 ∨ 7 ≤ 4 ∧ 4 ≤ 10 ∨ 4 = 16) ∨ 85 ≤ 77 ∧ 77 ≤ 87 ∧ 12 ≤ 4 by decide)
          refine to_an (pc := 5) rw_152_5 rfl (to_an (pc := 6) rw_152_6 rfl ?_)
          have c_397 : M394.2.1 77 10 = (M277.2.1 77 10) := (W_n W393 (by decide) (F_n F288 (show ¬ (77 < 0) by decide) rfl))
          have b_398 := g_b hG273 (a := 77) (i := 10) (lo := 0) (hi := 500) rfl rfl
          refine tt_gI (pc := 7) rw_152_7 (g_o hG395 rfl) (v := (M277.2.1 77 10)) c_397 (s_pI (pc := 10) rw_152_10 hG395 rfl (fun M400 W399 => ?_))
          have hG401 := g_wf hG395 W399 rfl rfl (by decide)
          have F402 := FR.w F396 W399 (show 77 = 77 ∧ (5 = 4 ∨ 5 = 5 ∨ 7 ≤ 5 ∧ 5 ≤ 10 ∨ 5 = 16) ∨ 85 ≤ 77 ∧ 77 ≤ 87 ∧ 12 ≤ 5 by decide)
          refine to_c (pc := 13) rw_152_13 (x := (0 : Int32)) rfl rfl (s_r1 (pc := 14) rw_152_14 (A := 0) rfl (by decide) (s_r1 (pc := 64) rw_171_64 (A := 0) rfl (by decide) ?_))
          have k_403 : (0 : Int32).toInt = 0 := rfl
          have c_404 : M400.2.1 77 7 = (M277.2.1 77 7) := (W_n W399 (by decide) (W_n W393 (by decide) (F_n F288 (show ¬ (77 < 0) by decide) rfl)))
          have t_405 : (M400.2.1 77 7).toInt = (M277.2.1 77 7).toInt := congrArg Int32.toInt c_404
          have c_406 : M400.2.1 77 6 = (M.2.1 77 6) := (W_n W399 (by decide) (W_n W393 (by decide) (F_n F288 (show ¬ (77 < 0) by decide) c_280)))
          have t_407 : (M400.2.1 77 6).toInt = (M.2.1 77 6).toInt := congrArg Int32.toInt c_406
          have c_408 : M400.2.1 77 8 = (M277.2.1 77 8) := (W_n W399 (by decide) (W_n W393 (by decide) (F_n F288 (show ¬ (77 < 0) by decide) rfl)))
          have t_409 : (M400.2.1 77 8).toInt = (M277.2.1 77 8).toInt := congrArg Int32.toInt c_408
          have j_410 := (WR_f (fun a i z => W_n W399 (by /-r77,5-/ omega) rfl) (WR_f (fun a i z => W_n W393 (by /-r77,4-/ omega) rfl) (WR_f (tg_219 F288) (WR_f (tg_222 F272) q2))))
          exact h (0 : Int32) M400 hG401 F402 (by decide) (by decide) (by omega) (by omega) (by omega) j_410
    · refine to_an (pc := 27) rw_171_27 rfl (to_c (pc := 28) rw_171_28 (x := (1 : Int32)) rfl rfl (s_v (pc := 29) rw_171_29 (dp0 hd (by decide)) (ls0 := [.ref 77, .int (1 : Int32)]) rfl (Nat.le_of_ble_eq_true rfl) (Nat.le_of_ble_eq_true rfl) rfl (to_rc rfl rfl rfl (g_o hG273 rfl)) rfl (to_an (pc := 0) rw_152_0 rfl (to_in (pc := 1) rw_152_1 rfl (s_pI (pc := 2) rw_152_2 hG273 rfl (fun M412 W411 => ?_))))))
      have hG413 := g_wf hG273 W411 rfl rfl (by decide)
      have F414 := FR.w F278 W411 (show 77 = 77 ∧ (4 = 4 ∨ 4 = 5 ∨ 7 ≤ 4 ∧ 4 ≤ 10 ∨ 4 = 16) ∨ 85 ≤ 77 ∧ 77 ≤ 87 ∧ 12 ≤ 4 by decide)
      refine to_an (pc := 5) rw_152_5 rfl (to_an (pc := 6) rw_152_6 rfl ?_)
      have c_415 : M412.2.1 77 10 = (M277.2.1 77 10) := (W_n W411 (by decide) rfl)
      have b_416 := g_b hG273 (a := 77) (i := 10) (lo := 0) (hi := 500) rfl rfl
      refine tt_gI (pc := 7) rw_152_7 (g_o hG413 rfl) (v := (M277.2.1 77 10)) c_415 (s_pI (pc := 10) rw_152_10 hG413 rfl (fun M418 W417 => ?_))
      have hG419 := g_wf hG413 W417 rfl rfl (by decide)
      have F420 := FR.w F414 W417 (show 77 = 77 ∧ (5 = 4 ∨ 5 = 5 ∨ 7 ≤ 5 ∧ 5 ≤ 10 ∨ 5 = 16) ∨ 85 ≤ 77 ∧ 77 ≤ 87 ∧ 12 ≤ 5 by decide)
      refine to_c (pc := 13) rw_152_13 (x := (0 : Int32)) rfl rfl (s_r1 (pc := 14) rw_152_14 (A := 0) rfl (by decide) (s_r1 (pc := 32) rw_171_32 (A := 0) rfl (by decide) ?_))
      have k_421 : (0 : Int32).toInt = 0 := rfl
      have c_422 : M418.2.1 77 7 = (M277.2.1 77 7) := (W_n W417 (by decide) (W_n W411 (by decide) rfl))
      have t_423 : (M418.2.1 77 7).toInt = (M277.2.1 77 7).toInt := congrArg Int32.toInt c_422
      have c_424 : M418.2.1 77 6 = (M.2.1 77 6) := (W_n W417 (by decide) (W_n W411 (by decide) c_280))
      have t_425 : (M418.2.1 77 6).toInt = (M.2.1 77 6).toInt := congrArg Int32.toInt c_424
      have c_426 : M418.2.1 77 8 = (M277.2.1 77 8) := (W_n W417 (by decide) (W_n W411 (by decide) rfl))
      have t_427 : (M418.2.1 77 8).toInt = (M277.2.1 77 8).toInt := congrArg Int32.toInt c_426
      have j_428 := (WR_f (fun a i z => W_n W417 (by /-r77,5-/ omega) rfl) (WR_f (fun a i z => W_n W411 (by /-r77,4-/ omega) rfl) (WR_f (tg_222 F272) q2)))
      exact h (0 : Int32) M418 hG419 F420 (by decide) (by decide) (by omega) (by omega) (by omega) j_428
  · refine to_an (pc := 9) rw_171_9 rfl (to_c (pc := 10) rw_171_10 (x := (2 : Int32)) rfl rfl (s_v (pc := 11) rw_171_11 (dp0 hd (by decide)) (ls0 := [.ref 77, .int (2 : Int32)]) rfl (Nat.le_of_ble_eq_true rfl) (Nat.le_of_ble_eq_true rfl) rfl (to_rc rfl rfl rfl (g_o hG rfl)) rfl (to_an (pc := 0) rw_152_0 rfl (to_in (pc := 1) rw_152_1 rfl (s_pI (pc := 2) rw_152_2 hG rfl (fun M430 W429 => ?_))))))
    have hG431 := g_wf hG W429 rfl rfl (by decide)
    have F432 := FR.w F0 W429 (show 77 = 77 ∧ (4 = 4 ∨ 4 = 5 ∨ 7 ≤ 4 ∧ 4 ≤ 10 ∨ 4 = 16) ∨ 85 ≤ 77 ∧ 77 ≤ 87 ∧ 12 ≤ 4 by decide)
    refine to_an (pc := 5) rw_152_5 rfl (to_an (pc := 6) rw_152_6 rfl ?_)
    have c_433 : M430.2.1 77 10 = (M.2.1 77 10) := (W_n W429 (by decide) rfl)
    have b_434 := g_b hG (a := 77) (i := 10) (lo := 0) (hi := 500) rfl rfl
    refine tt_gI (pc := 7) rw_152_7 (g_o hG431 rfl) (v := (M.2.1 77 10)) c_433 (s_pI (pc := 10) rw_152_10 hG431 rfl (fun M436 W435 => ?_))
    have hG437 := g_wf hG431 W435 rfl rfl (by decide)
    have F438 := FR.w F432 W435 (show 77 = 77 ∧ (5 = 4 ∨ 5 = 5 ∨ 7 ≤ 5 ∧ 5 ≤ 10 ∨ 5 = 16) ∨ 85 ≤ 77 ∧ 77 ≤ 87 ∧ 12 ≤ 5 by decide)
    refine to_c (pc := 13) rw_152_13 (x := (0 : Int32)) rfl rfl (s_r1 (pc := 14) rw_152_14 (A := 0) rfl (by decide) (s_r1 (pc := 14) rw_171_14 (A := 0) rfl (by decide) ?_))
    have k_439 : (0 : Int32).toInt = 0 := rfl
    have c_440 : M436.2.1 77 7 = (M.2.1 77 7) := (W_n W435 (by decide) (W_n W429 (by decide) rfl))
    have t_441 : (M436.2.1 77 7).toInt = (M.2.1 77 7).toInt := congrArg Int32.toInt c_440
    have c_442 : M436.2.1 77 6 = (M.2.1 77 6) := (W_n W435 (by decide) (W_n W429 (by decide) rfl))
    have t_443 : (M436.2.1 77 6).toInt = (M.2.1 77 6).toInt := congrArg Int32.toInt c_442
    have c_444 : M436.2.1 77 8 = (M.2.1 77 8) := (W_n W435 (by decide) (W_n W429 (by decide) rfl))
    have b_445 := g_b hG (a := 77) (i := 8) (lo := 0) (hi := 5) rfl rfl
    have t_446 : (M436.2.1 77 8).toInt = (M.2.1 77 8).toInt := congrArg Int32.toInt c_444
    have j_447 := (WR_f (fun a i z => W_n W435 (by /-r77,5-/ omega) rfl) (WR_f (fun a i z => W_n W429 (by /-r77,4-/ omega) rfl) q2))
    exact h (0 : Int32) M436 hG437 F438 (by decide) (by decide) (by omega) (by omega) (by omega) j_447
set_option maxRecDepth 4000 in
set_option maxHeartbeats 0 in
theorem C_172 {X : mm_X} {d : Nat} {M : mm_M} {Q : Option Value → mm_M → Prop} {x : Int32} (hX : g_X X) (hd : 4 ≤ d) (hG : g_G M) (q1 : (M.2.1 77 7).toInt ≤ (M.2.1 77 6).toInt) (q2 : 0 ≤ x.toInt) (q3 : x.toInt ≤ 1) (q4 : FA M) (q5 : WR M) (h : ∀ (r : Int32) (M1 : mm_M), g_G M1 → FR md_pl M M1 → (0 ≤ r.toInt) → (r.toInt ≤ 1) → ((M1.2.1 77 7).toInt ≤ (M1.2.1 77 6).toInt) → ((M.2.1 77 7).toInt ≤ (M1.2.1 77 7).toInt) → (r.toInt = 1 → (M1.2.1 77 8).toInt = 0 ∨ (M.2.1 77 7).toInt < (M1.2.1 77 7).toInt) → (r.toInt = 1 → ¬ (M.2.1 77 8).toInt = 0) → FA M1 → WR M1 → Q (some (.int r)) M1) : mm_T X d 171 0 [.ref 77, .int x] [] M Q := by
  have F0 : FR md_pl M M := FR.rf
  have b_1 := g_b hG (a := 77) (i := 7) (lo := 0) (hi := 500) rfl rfl
  have b_2 := g_b hG (a := 77) (i := 6) (lo := 0) (hi := 500) rfl rfl
  refine to_an (pc := 0) rw_172_0 rfl ?_
  have b_3 := g_b hG (a := 77) (i := 8) (lo := 0) (hi := 5) rfl rfl
  refine tt_gI (pc := 1) rw_172_1 (g_o hG rfl) (v := (M.2.1 77 8)) rfl (to_c (pc := 4) rw_172_4 (x := (1 : Int32)) rfl rfl (b_cne (pc := 5) rw_172_5 (A := (M.2.1 77 8).toInt) (B := 1) rfl rfl (fun h4 => ?_) (fun h4 => ?_)))
  · refine to_an (pc := 27) rw_172_27 rfl (to_c (pc := 28) rw_172_28 (x := (1 : Int32)) rfl rfl (s_v (pc := 29) rw_172_29 (dp0 hd (by decide)) (ls0 := [.ref 77, .int (1 : Int32)]) rfl (Nat.le_of_ble_eq_true rfl) (Nat.le_of_ble_eq_true rfl) rfl (to_rc rfl rfl rfl (g_o hG rfl)) rfl (to_an (pc := 0) rw_152_0 rfl (to_in (pc := 1) rw_152_1 rfl (s_pI (pc := 2) rw_152_2 hG rfl (fun M6 W5 => ?_))))))
    have hG7 := g_wf hG W5 rfl rfl (by decide)
    have F8 := FR.w F0 W5 (show 77 = 77 ∧ (4 = 4 ∨ 4 = 5 ∨ 7 ≤ 4 ∧ 4 ≤ 10 ∨ 14 ≤ 4 ∧ 4 ≤ 16 ∨ 4 = 25) ∨ 80 ≤ 77 ∧ 77 ≤ 84 ∧ 8 ≤ 4 ∨ 85 ≤ 77 ∧ 77 ≤ 87 ∧ 12 ≤ 4 by decide)
    refine to_an (pc := 5) rw_152_5 rfl (to_an (pc := 6) rw_152_6 rfl ?_)
    have c_9 : M6.2.1 77 10 = (M.2.1 77 10) := (W_n W5 (by decide) rfl)
    have b_10 := g_b hG (a := 77) (i := 10) (lo := 0) (hi := 500) rfl rfl
    refine tt_gI (pc := 7) rw_152_7 (g_o hG7 rfl) (v := (M.2.1 77 10)) c_9 (s_pI (pc := 10) rw_152_10 hG7 rfl (fun M12 W11 => ?_))
    have hG13 := g_wf hG7 W11 rfl rfl (by decide)
    have F14 := FR.w F8 W11 (show 77 = 77 ∧ (5 = 4 ∨ 5 = 5 ∨ 7 ≤ 5 ∧ 5 ≤ 10 ∨ 14 ≤ 5 ∧ 5 ≤ 16 ∨ 5 = 25) ∨ 80 ≤ 77 ∧ 77 ≤ 84 ∧ 8 ≤ 5 ∨ 85 ≤ 77 ∧ 77 ≤ 87 ∧ 12 ≤ 5 by decide)
    refine to_c (pc := 13) rw_152_13 (x := (0 : Int32)) rfl rfl (s_r1 (pc := 14) rw_152_14 (A := 0) rfl (by decide) (s_r1 (pc := 32) rw_172_32 (A := 0) rfl (by decide) ?_))
    have k_15 : (0 : Int32).toInt = 0 := rfl
    have c_16 : M12.2.1 77 7 = (M.2.1 77 7) := (W_n W11 (by decide) (W_n W5 (by decide) rfl))
    have t_17 : (M12.2.1 77 7).toInt = (M.2.1 77 7).toInt := congrArg Int32.toInt c_16
    have c_18 : M12.2.1 77 6 = (M.2.1 77 6) := (W_n W11 (by decide) (W_n W5 (by decide) rfl))
    have t_19 : (M12.2.1 77 6).toInt = (M.2.1 77 6).toInt := congrArg Int32.toInt c_18
    have c_20 : M12.2.1 77 8 = (M.2.1 77 8) := (W_n W11 (by decide) (W_n W5 (by decide) rfl))
    have t_21 : (M12.2.1 77 8).toInt = (M.2.1 77 8).toInt := congrArg Int32.toInt c_20
    have j_22 := (FA_f (fun a i z => W_n W11 (tg_231 a i z) rfl) (FA_f (fun a i z => W_n W5 (tg_232 a i z) rfl) q4))
    have j_23 := (WR_f (fun a i z => W_n W11 (by /-r77,5-/ omega) rfl) (WR_f (fun a i z => W_n W5 (by /-r77,4-/ omega) rfl) q5))
    exact h (0 : Int32) M12 hG13 F14 (by decide) (by decide) (by omega) (by omega) (by omega) (by omega) j_22 j_23
  · refine to_an (pc := 8) rw_172_8 rfl (tt_gI (pc := 9) rw_172_9 (g_o hG rfl) (v := (M.2.1 77 9)) rfl (to_c (pc := 12) rw_172_12 (x := (2 : Int32)) rfl rfl (b_cgt (pc := 13) rw_172_13 (A := (M.2.1 77 9).toInt) (B := 2) rfl rfl (fun h24 => ?_) (fun h24 => ?_))))
    · refine to_an (pc := 27) rw_172_27 rfl (to_c (pc := 28) rw_172_28 (x := (1 : Int32)) rfl rfl (s_v (pc := 29) rw_172_29 (dp0 hd (by decide)) (ls0 := [.ref 77, .int (1 : Int32)]) rfl (Nat.le_of_ble_eq_true rfl) (Nat.le_of_ble_eq_true rfl) rfl (to_rc rfl rfl rfl (g_o hG rfl)) rfl (to_an (pc := 0) rw_152_0 rfl (to_in (pc := 1) rw_152_1 rfl (s_pI (pc := 2) rw_152_2 hG rfl (fun M26 W25 => ?_))))))
      have hG27 := g_wf hG W25 rfl rfl (by decide)
      have F28 := FR.w F0 W25 (show 77 = 77 ∧ (4 = 4 ∨ 4 = 5 ∨ 7 ≤ 4 ∧ 4 ≤ 10 ∨ 14 ≤ 4 ∧ 4 ≤ 16 ∨ 4 = 25) ∨ 80 ≤ 77 ∧ 77 ≤ 84 ∧ 8 ≤ 4 ∨ 85 ≤ 77 ∧ 77 ≤ 87 ∧ 12 ≤ 4 by decide)
      refine to_an (pc := 5) rw_152_5 rfl (to_an (pc := 6) rw_152_6 rfl ?_)
      have c_29 : M26.2.1 77 10 = (M.2.1 77 10) := (W_n W25 (by decide) rfl)
      have b_30 := g_b hG (a := 77) (i := 10) (lo := 0) (hi := 500) rfl rfl
      refine tt_gI (pc := 7) rw_152_7 (g_o hG27 rfl) (v := (M.2.1 77 10)) c_29 (s_pI (pc := 10) rw_152_10 hG27 rfl (fun M32 W31 => ?_))
      have hG33 := g_wf hG27 W31 rfl rfl (by decide)
      have F34 := FR.w F28 W31 (show 77 = 77 ∧ (5 = 4 ∨ 5 = 5 ∨ 7 ≤ 5 ∧ 5 ≤ 10 ∨ 14 ≤ 5 ∧ 5 ≤ 16 ∨ 5 = 25) ∨ 80 ≤ 77 ∧ 77 ≤ 84 ∧ 8 ≤ 5 ∨ 85 ≤ 77 ∧ 77 ≤ 87 ∧ 12 ≤ 5 by decide)
      refine to_c (pc := 13) rw_152_13 (x := (0 : Int32)) rfl rfl (s_r1 (pc := 14) rw_152_14 (A := 0) rfl (by decide) (s_r1 (pc := 32) rw_172_32 (A := 0) rfl (by decide) ?_))
      have k_35 : (0 : Int32).toInt = 0 := rfl
      have c_36 : M32.2.1 77 7 = (M.2.1 77 7) := (W_n W31 (by decide) (W_n W25 (by decide) rfl))
      have t_37 : (M32.2.1 77 7).toInt = (M.2.1 77 7).toInt := congrArg Int32.toInt c_36
      have c_38 : M32.2.1 77 6 = (M.2.1 77 6) := (W_n W31 (by decide) (W_n W25 (by decide) rfl))
      have t_39 : (M32.2.1 77 6).toInt = (M.2.1 77 6).toInt := congrArg Int32.toInt c_38
      have c_40 : M32.2.1 77 8 = (M.2.1 77 8) := (W_n W31 (by decide) (W_n W25 (by decide) rfl))
      have t_41 : (M32.2.1 77 8).toInt = (M.2.1 77 8).toInt := congrArg Int32.toInt c_40
      have j_42 := (FA_f (fun a i z => W_n W31 (tg_231 a i z) rfl) (FA_f (fun a i z => W_n W25 (tg_232 a i z) rfl) q4))
      have j_43 := (WR_f (fun a i z => W_n W31 (by /-r77,5-/ omega) rfl) (WR_f (fun a i z => W_n W25 (by /-r77,4-/ omega) rfl) q5))
      exact h (0 : Int32) M32 hG33 F34 (by decide) (by decide) (by omega) (by omega) (by omega) (by omega) j_42 j_43
    · refine to_in (pc := 16) rw_172_16 rfl (b_ieq (pc := 17) rw_172_17 (A := x.toInt) rfl (fun h44 => ?_) (fun h44 => ?_))
      · refine to_an (pc := 33) rw_172_33 rfl (tt_gI (pc := 34) rw_172_34 (g_o hG rfl) (v := (M.2.1 77 9)) rfl (b_ine (pc := 37) rw_172_37 (A := (M.2.1 77 9).toInt) rfl (fun h45 => ?_) (fun h45 => ?_)))
        · refine to_an (pc := 82) rw_172_82 rfl (tt_gI (pc := 83) rw_172_83 (g_o hG rfl) (v := (M.2.1 77 9)) rfl (to_c (pc := 86) rw_172_86 (x := (1 : Int32)) rfl rfl (b_cne (pc := 87) rw_172_87 (A := (M.2.1 77 9).toInt) (B := 1) rfl rfl (fun h46 => ?_) (fun h46 => ?_))))
          · refine to_an (pc := 100) rw_172_100 rfl (s_v (pc := 101) rw_172_101 (dp0 hd (by decide)) (ls0 := [.ref 77, .null, .null, .null, .null, .null]) rfl (Nat.le_of_ble_eq_true rfl) (Nat.le_of_ble_eq_true rfl) rfl (to_rc rfl rfl rfl (g_o hG rfl)) rfl (C_171 hX (dp1 hd (by decide)) hG (by omega) q5  (fun r47 M56 hG49 F48 p_50 p_51 p_52 p_53 p_54 p_55 => ?_)))
            have F57 := FR.c F0 F48 tg_76
            have b_58 := g_b hG49 (a := 77) (i := 7) (lo := 0) (hi := 500) rfl rfl
            have c_59 : M56.2.1 77 6 = (M.2.1 77 6) := (F_n F48 (show ¬ (77 = 77 ∧ (6 = 4 ∨ 6 = 5 ∨ 7 ≤ 6 ∧ 6 ≤ 10 ∨ 6 = 16) ∨ 85 ≤ 77 ∧ 77 ≤ 87 ∧ 12 ≤ 6) by decide) rfl)
            have t_60 : (M56.2.1 77 6).toInt = (M.2.1 77 6).toInt := congrArg Int32.toInt c_59
            have b_61 := g_b hG49 (a := 77) (i := 8) (lo := 0) (hi := 5) rfl rfl
            refine b_ine (pc := 104) rw_172_104 (A := r47.toInt) rfl (fun h62 => ?_) (fun h62 => ?_)
            · refine to_an (pc := 109) rw_172_109 rfl (to_c (pc := 110) rw_172_110 (x := (59 : Int32)) rfl rfl (s_v (pc := 112) rw_172_112 (dp0 hd (by decide)) (ls0 := [.ref 77, .int (59 : Int32)]) rfl (Nat.le_of_ble_eq_true rfl) (Nat.le_of_ble_eq_true rfl) rfl (to_rc rfl rfl rfl (g_o hG49 rfl)) rfl ?_))
              have k_63 : (59 : Int32).toInt = 59 := rfl
              refine C_160 hX (dp1 hd (by decide)) hG49 (by omega) (c := (59 : Int32)) (fun r64 M73 hG66 F65 p_67 p_68 p_69 p_70 p_71 p_72 => ?_)
              have F74 := FR.c F57 F65 tg_77
              have b_75 := g_b hG66 (a := 77) (i := 7) (lo := 0) (hi := 500) rfl rfl
              have c_76 : M73.2.1 77 6 = (M.2.1 77 6) := (F_n F65 (show ¬ (77 = 77 ∧ (6 = 4 ∨ 6 = 5 ∨ 7 ≤ 6 ∧ 6 ≤ 10)) by decide) c_59)
              have t_77 : (M73.2.1 77 6).toInt = (M.2.1 77 6).toInt := congrArg Int32.toInt c_76
              have b_78 := g_b hG66 (a := 77) (i := 8) (lo := 0) (hi := 5) rfl rfl
              refine s_r1 (pc := 115) rw_172_115 (A := r64.toInt) rfl (by omega) ?_
              have j_79 := (FA_f (tg_224 F65) (FA_f (tg_225 F48) q4))
              have j_80 := (WR_f (tg_226 F65) p_55)
              exact h r64 M73 hG66 F74 (by omega) (by omega) (by omega) (by omega) (by omega) (by omega) j_79 j_80
            · refine to_c (pc := 107) rw_172_107 (x := (0 : Int32)) rfl rfl (s_r1 (pc := 108) rw_172_108 (A := 0) rfl (by decide) ?_)
              have k_81 : (0 : Int32).toInt = 0 := rfl
              have j_82 := (FA_f (tg_225 F48) q4)
              exact h (0 : Int32) M56 hG49 F57 (by decide) (by decide) (by omega) (by omega) (by omega) (by omega) j_82 p_55
          · refine to_an (pc := 90) rw_172_90 rfl (s_v (pc := 91) rw_172_91 (dp0 hd (by decide)) (ls0 := [.ref 77, .null, .null, .null, .null, .null, .null, .null, .null]) rfl (Nat.le_of_ble_eq_true rfl) (Nat.le_of_ble_eq_true rfl) rfl (to_rc rfl rfl rfl (g_o hG rfl)) rfl (C_170 hX (dp1 hd (by decide)) hG (by omega) q4 q5  (fun r83 M93 hG85 F84 p_86 p_87 p_88 p_89 p_90 p_91 p_92 => ?_)))
            have F94 := FR.c F0 F84 tg_228
            have b_95 := g_b hG85 (a := 77) (i := 7) (lo := 0) (hi := 500) rfl rfl
            have c_96 : M93.2.1 77 6 = (M.2.1 77 6) := (F_n F84 (show ¬ (77 = 77 ∧ (6 = 4 ∨ 6 = 5 ∨ 7 ≤ 6 ∧ 6 ≤ 10 ∨ 14 ≤ 6 ∧ 6 ≤ 16 ∨ 6 = 25) ∨ 80 ≤ 77 ∧ 77 ≤ 84 ∧ 8 ≤ 6 ∨ 85 ≤ 77 ∧ 77 ≤ 87 ∧ 12 ≤ 6) by decide) rfl)
            have t_97 : (M93.2.1 77 6).toInt = (M.2.1 77 6).toInt := congrArg Int32.toInt c_96
            have b_98 := g_b hG85 (a := 77) (i := 8) (lo := 0) (hi := 5) rfl rfl
            refine b_ine (pc := 94) rw_172_94 (A := r83.toInt) rfl (fun h99 => ?_) (fun h99 => ?_)
            · refine to_an (pc := 109) rw_172_109 rfl (to_c (pc := 110) rw_172_110 (x := (59 : Int32)) rfl rfl (s_v (pc := 112) rw_172_112 (dp0 hd (by decide)) (ls0 := [.ref 77, .int (59 : Int32)]) rfl (Nat.le_of_ble_eq_true rfl) (Nat.le_of_ble_eq_true rfl) rfl (to_rc rfl rfl rfl (g_o hG85 rfl)) rfl ?_))
              have k_100 : (59 : Int32).toInt = 59 := rfl
              refine C_160 hX (dp1 hd (by decide)) hG85 (by omega) (c := (59 : Int32)) (fun r101 M110 hG103 F102 p_104 p_105 p_106 p_107 p_108 p_109 => ?_)
              have F111 := FR.c F94 F102 tg_77
              have b_112 := g_b hG103 (a := 77) (i := 7) (lo := 0) (hi := 500) rfl rfl
              have c_113 : M110.2.1 77 6 = (M.2.1 77 6) := (F_n F102 (show ¬ (77 = 77 ∧ (6 = 4 ∨ 6 = 5 ∨ 7 ≤ 6 ∧ 6 ≤ 10)) by decide) c_96)
              have t_114 : (M110.2.1 77 6).toInt = (M.2.1 77 6).toInt := congrArg Int32.toInt c_113
              have b_115 := g_b hG103 (a := 77) (i := 8) (lo := 0) (hi := 5) rfl rfl
              refine s_r1 (pc := 115) rw_172_115 (A := r101.toInt) rfl (by omega) ?_
              have j_116 := (FA_f (tg_224 F102) p_91)
              have j_117 := (WR_f (tg_226 F102) p_92)
              exact h r101 M110 hG103 F111 (by omega) (by omega) (by omega) (by omega) (by omega) (by omega) j_116 j_117
            · refine to_go (pc := 97) rw_172_97 (to_c (pc := 107) rw_172_107 (x := (0 : Int32)) rfl rfl (s_r1 (pc := 108) rw_172_108 (A := 0) rfl (by decide) ?_))
              have k_118 : (0 : Int32).toInt = 0 := rfl
              exact h (0 : Int32) M93 hG85 F94 (by decide) (by decide) (by omega) (by omega) (by omega) (by omega) p_91 p_92
        · refine to_in (pc := 40) rw_172_40 rfl (b_ine_f (pc := 41) rw_172_41 (A := x.toInt) rfl (by omega) (to_an (pc := 44) rw_172_44 rfl (to_c (pc := 45) rw_172_45 (x := (3 : Int32)) rfl rfl (s_v (pc := 46) rw_172_46 (dp0 hd (by decide)) (ls0 := [.ref 77, .int (3 : Int32)]) rfl (Nat.le_of_ble_eq_true rfl) (Nat.le_of_ble_eq_true rfl) rfl (to_rc rfl rfl rfl (g_o hG rfl)) rfl (to_an (pc := 0) rw_152_0 rfl (to_in (pc := 1) rw_152_1 rfl (s_pI (pc := 2) rw_152_2 hG rfl (fun M120 W119 => ?_))))))))
          have hG121 := g_wf hG W119 rfl rfl (by decide)
          have F122 := FR.w F0 W119 (show 77 = 77 ∧ (4 = 4 ∨ 4 = 5 ∨ 7 ≤ 4 ∧ 4 ≤ 10 ∨ 14 ≤ 4 ∧ 4 ≤ 16 ∨ 4 = 25) ∨ 80 ≤ 77 ∧ 77 ≤ 84 ∧ 8 ≤ 4 ∨ 85 ≤ 77 ∧ 77 ≤ 87 ∧ 12 ≤ 4 by decide)
          refine to_an (pc := 5) rw_152_5 rfl (to_an (pc := 6) rw_152_6 rfl ?_)
          have c_123 : M120.2.1 77 10 = (M.2.1 77 10) := (W_n W119 (by decide) rfl)
          have b_124 := g_b hG (a := 77) (i := 10) (lo := 0) (hi := 500) rfl rfl
          refine tt_gI (pc := 7) rw_152_7 (g_o hG121 rfl) (v := (M.2.1 77 10)) c_123 (s_pI (pc := 10) rw_152_10 hG121 rfl (fun M126 W125 => ?_))
          have hG127 := g_wf hG121 W125 rfl rfl (by decide)
          have F128 := FR.w F122 W125 (show 77 = 77 ∧ (5 = 4 ∨ 5 = 5 ∨ 7 ≤ 5 ∧ 5 ≤ 10 ∨ 14 ≤ 5 ∧ 5 ≤ 16 ∨ 5 = 25) ∨ 80 ≤ 77 ∧ 77 ≤ 84 ∧ 8 ≤ 5 ∨ 85 ≤ 77 ∧ 77 ≤ 87 ∧ 12 ≤ 5 by decide)
          refine to_c (pc := 13) rw_152_13 (x := (0 : Int32)) rfl rfl (s_r1 (pc := 14) rw_152_14 (A := 0) rfl (by decide) (s_r1 (pc := 49) rw_172_49 (A := 0) rfl (by decide) ?_))
          have k_129 : (0 : Int32).toInt = 0 := rfl
          have c_130 : M126.2.1 77 7 = (M.2.1 77 7) := (W_n W125 (by decide) (W_n W119 (by decide) rfl))
          have t_131 : (M126.2.1 77 7).toInt = (M.2.1 77 7).toInt := congrArg Int32.toInt c_130
          have c_132 : M126.2.1 77 6 = (M.2.1 77 6) := (W_n W125 (by decide) (W_n W119 (by decide) rfl))
          have t_133 : (M126.2.1 77 6).toInt = (M.2.1 77 6).toInt := congrArg Int32.toInt c_132
          have c_134 : M126.2.1 77 8 = (M.2.1 77 8) := (W_n W125 (by decide) (W_n W119 (by decide) rfl))
          have t_135 : (M126.2.1 77 8).toInt = (M.2.1 77 8).toInt := congrArg Int32.toInt c_134
          have j_136 := (FA_f (fun a i z => W_n W125 (tg_231 a i z) rfl) (FA_f (fun a i z => W_n W119 (tg_232 a i z) rfl) q4))
          have j_137 := (WR_f (fun a i z => W_n W125 (by /-r77,5-/ omega) rfl) (WR_f (fun a i z => W_n W119 (by /-r77,4-/ omega) rfl) q5))
          exact h (0 : Int32) M126 hG127 F128 (by decide) (by decide) (by omega) (by omega) (by omega) (by omega) j_136 j_137
      · refine to_an (pc := 20) rw_172_20 rfl (tt_gI (pc := 21) rw_172_21 (g_o hG rfl) (v := (M.2.1 77 9)) rfl (b_ieq (pc := 24) rw_172_24 (A := (M.2.1 77 9).toInt) rfl (fun h138 => ?_) (fun h138 => ?_)))
        · refine to_an (pc := 33) rw_172_33 rfl (tt_gI (pc := 34) rw_172_34 (g_o hG rfl) (v := (M.2.1 77 9)) rfl (b_ine_f (pc := 37) rw_172_37 (A := (M.2.1 77 9).toInt) rfl (by omega) (to_in (pc := 40) rw_172_40 rfl (b_ine_t (pc := 41) rw_172_41 (A := x.toInt) rfl (by omega) (to_an (pc := 50) rw_172_50 rfl (s_v (pc := 51) rw_172_51 (dp0 hd (by decide)) (ls0 := [.ref 77]) rfl (Nat.le_of_ble_eq_true rfl) (Nat.le_of_ble_eq_true rfl) rfl (to_rc rfl rfl rfl (g_o hG rfl)) rfl (C_156 hX (dp1 hd (by decide)) hG (by omega)  (fun M144 hG140 F139 p_141 p_142 p_143 => ?_))))))))
          have F145 := FR.c F0 F139 tg_79
          have b_146 := g_b hG140 (a := 77) (i := 7) (lo := 0) (hi := 500) rfl rfl
          have c_147 : M144.2.1 77 6 = (M.2.1 77 6) := (F_n F139 (show ¬ (77 = 77 ∧ 7 ≤ 6 ∧ 6 ≤ 10) by decide) rfl)
          have t_148 : (M144.2.1 77 6).toInt = (M.2.1 77 6).toInt := congrArg Int32.toInt c_147
          have b_149 := g_b hG140 (a := 77) (i := 8) (lo := 0) (hi := 5) rfl rfl
          refine to_an (pc := 54) rw_172_54 rfl (to_c (pc := 55) rw_172_55 (x := (10 : Int32)) rfl rfl (to_c (pc := 57) rw_172_57 (x := (60 : Int32)) rfl rfl (s_v (pc := 59) rw_172_59 (dp0 hd (by decide)) (ls0 := [.ref 77, .int (10 : Int32), .int (60 : Int32)]) rfl (Nat.le_of_ble_eq_true rfl) (Nat.le_of_ble_eq_true rfl) rfl (to_rc rfl rfl rfl (g_o hG140 rfl)) rfl (to_an (pc := 0) rw_162_0 rfl (tt_gI (pc := 1) rw_162_1 (g_o hG140 rfl) (v := (M144.2.1 77 8)) rfl (to_c (pc := 4) rw_162_4 (x := (3 : Int32)) rfl rfl (b_ceq (pc := 5) rw_162_5 (A := (M144.2.1 77 8).toInt) (B := 3) rfl rfl (fun h150 => ?_) (fun h150 => ?_))))))))
          · refine to_an (pc := 14) rw_162_14 rfl (tt_gI (pc := 15) rw_162_15 (g_o hG140 rfl) (v := (M144.2.1 77 9)) rfl (to_in (pc := 18) rw_162_18 rfl (b_clt (pc := 19) rw_162_19 (A := (M144.2.1 77 9).toInt) (B := 10) rfl rfl (fun h151 => ?_) (fun h151 => ?_))))
            · refine to_an (pc := 30) rw_162_30 rfl (to_c (pc := 31) rw_162_31 (x := (2 : Int32)) rfl rfl (s_v (pc := 32) rw_162_32 (dp1 hd (by decide)) (ls0 := [.ref 77, .int (2 : Int32)]) rfl (Nat.le_of_ble_eq_true rfl) (Nat.le_of_ble_eq_true rfl) rfl (to_rc rfl rfl rfl (g_o hG140 rfl)) rfl (to_an (pc := 0) rw_152_0 rfl (to_in (pc := 1) rw_152_1 rfl (s_pI (pc := 2) rw_152_2 hG140 rfl (fun M153 W152 => ?_))))))
              have hG154 := g_wf hG140 W152 rfl rfl (by decide)
              have F155 := FR.w F145 W152 (show 77 = 77 ∧ (4 = 4 ∨ 4 = 5 ∨ 7 ≤ 4 ∧ 4 ≤ 10 ∨ 14 ≤ 4 ∧ 4 ≤ 16 ∨ 4 = 25) ∨ 80 ≤ 77 ∧ 77 ≤ 84 ∧ 8 ≤ 4 ∨ 85 ≤ 77 ∧ 77 ≤ 87 ∧ 12 ≤ 4 by decide)
              refine to_an (pc := 5) rw_152_5 rfl (to_an (pc := 6) rw_152_6 rfl ?_)
              have c_156 : M153.2.1 77 10 = (M144.2.1 77 10) := (W_n W152 (by decide) rfl)
              have b_157 := g_b hG140 (a := 77) (i := 10) (lo := 0) (hi := 500) rfl rfl
              refine tt_gI (pc := 7) rw_152_7 (g_o hG154 rfl) (v := (M144.2.1 77 10)) c_156 (s_pI (pc := 10) rw_152_10 hG154 rfl (fun M159 W158 => ?_))
              have hG160 := g_wf hG154 W158 rfl rfl (by decide)
              have F161 := FR.w F155 W158 (show 77 = 77 ∧ (5 = 4 ∨ 5 = 5 ∨ 7 ≤ 5 ∧ 5 ≤ 10 ∨ 14 ≤ 5 ∧ 5 ≤ 16 ∨ 5 = 25) ∨ 80 ≤ 77 ∧ 77 ≤ 84 ∧ 8 ≤ 5 ∨ 85 ≤ 77 ∧ 77 ≤ 87 ∧ 12 ≤ 5 by decide)
              refine to_c (pc := 13) rw_152_13 (x := (0 : Int32)) rfl rfl (s_r1 (pc := 14) rw_152_14 (A := 0) rfl (by decide) (b_ieq_t (pc := 35) rw_162_35 (A := 0) rfl (by decide) (to_c (pc := 42) rw_162_42 (x := (0 : Int32)) rfl rfl (s_r1 (pc := 43) rw_162_43 (A := 0) rfl (by decide) (b_ine_f (pc := 62) rw_172_62 (A := 0) rfl (by decide) (to_c (pc := 65) rw_172_65 (x := (0 : Int32)) rfl rfl (s_r1 (pc := 66) rw_172_66 (A := 0) rfl (by decide) ?_)))))))
              have k_162 : (0 : Int32).toInt = 0 := rfl
              have c_163 : M159.2.1 77 7 = (M144.2.1 77 7) := (W_n W158 (by decide) (W_n W152 (by decide) rfl))
              have t_164 : (M159.2.1 77 7).toInt = (M144.2.1 77 7).toInt := congrArg Int32.toInt c_163
              have c_165 : M159.2.1 77 6 = (M.2.1 77 6) := (W_n W158 (by decide) (W_n W152 (by decide) c_147))
              have t_166 : (M159.2.1 77 6).toInt = (M.2.1 77 6).toInt := congrArg Int32.toInt c_165
              have c_167 : M159.2.1 77 8 = (M144.2.1 77 8) := (W_n W158 (by decide) (W_n W152 (by decide) rfl))
              have t_168 : (M159.2.1 77 8).toInt = (M144.2.1 77 8).toInt := congrArg Int32.toInt c_167
              have j_169 := (FA_f (fun a i z => W_n W158 (tg_231 a i z) rfl) (FA_f (fun a i z => W_n W152 (tg_232 a i z) rfl) (FA_f (tg_220 F139) q4)))
              have j_170 := (WR_f (fun a i z => W_n W158 (by /-r77,5-/ omega) rfl) (WR_f (fun a i z => W_n W152 (by /-r77,4-/ omega) rfl) (WR_f (tg_222 F139) q5)))
              exact h (0 : Int32) M159 hG160 F161 (by decide) (by decide) (by omega) (by omega) (by omega) (by omega) j_169 j_170
            · refine to_an (pc := 22) rw_162_22 rfl (tt_gI (pc := 23) rw_162_23 (g_o hG140 rfl) (v := (M144.2.1 77 9)) rfl (to_in (pc := 26) rw_162_26 rfl (b_cle (pc := 27) rw_162_27 (A := (M144.2.1 77 9).toInt) (B := 60) rfl rfl (fun h171 => ?_) (fun h171 => ?_))))
              · refine to_c (pc := 38) rw_162_38 (x := (1 : Int32)) rfl rfl (to_go (pc := 39) rw_162_39 (s_r1 (pc := 43) rw_162_43 (A := 1) rfl (by decide) (b_ine_t (pc := 62) rw_172_62 (A := 1) rfl (by decide) (to_an (pc := 67) rw_172_67 rfl (to_an (pc := 68) rw_172_68 rfl (tt_gI (pc := 69) rw_172_69 (g_o hG140 rfl) (v := (M144.2.1 77 9)) rfl (s_pI (pc := 72) rw_172_72 hG140 rfl (fun M173 W172 => ?_))))))))
                have hG174 := g_w hG140 W172 (A := (M144.2.1 77 9).toInt) rfl (lo := 10) (hi := 60) rfl rfl (by omega) (by decide)
                have F175 := FR.w F145 W172 (show 77 = 77 ∧ (14 = 4 ∨ 14 = 5 ∨ 7 ≤ 14 ∧ 14 ≤ 10 ∨ 14 ≤ 14 ∧ 14 ≤ 16 ∨ 14 = 25) ∨ 80 ≤ 77 ∧ 77 ≤ 84 ∧ 8 ≤ 14 ∨ 85 ≤ 77 ∧ 77 ≤ 87 ∧ 12 ≤ 14 by decide)
                refine to_an (pc := 75) rw_172_75 rfl (s_v (pc := 76) rw_172_76 (dp0 hd (by decide)) (ls0 := [.ref 77]) rfl (Nat.le_of_ble_eq_true rfl) (Nat.le_of_ble_eq_true rfl) rfl (to_rc rfl rfl rfl (g_o hG174 rfl)) rfl ?_)
                have c_176 : M173.2.1 77 7 = (M144.2.1 77 7) := (W_n W172 (by decide) rfl)
                have t_177 : (M173.2.1 77 7).toInt = (M144.2.1 77 7).toInt := congrArg Int32.toInt c_176
                have c_178 : M173.2.1 77 6 = (M.2.1 77 6) := (W_n W172 (by decide) c_147)
                have t_179 : (M173.2.1 77 6).toInt = (M.2.1 77 6).toInt := congrArg Int32.toInt c_178
                refine C_156 hX (dp1 hd (by decide)) hG174 (by omega)  (fun M185 hG181 F180 p_182 p_183 p_184 => ?_)
                have F186 := FR.c F175 F180 tg_79
                have b_187 := g_b hG181 (a := 77) (i := 7) (lo := 0) (hi := 500) rfl rfl
                have c_188 : M185.2.1 77 6 = (M.2.1 77 6) := (F_n F180 (show ¬ (77 = 77 ∧ 7 ≤ 6 ∧ 6 ≤ 10) by decide) c_178)
                have t_189 : (M185.2.1 77 6).toInt = (M.2.1 77 6).toInt := congrArg Int32.toInt c_188
                have b_190 := g_b hG181 (a := 77) (i := 8) (lo := 0) (hi := 5) rfl rfl
                refine to_go (pc := 79) rw_172_79 (to_an (pc := 109) rw_172_109 rfl (to_c (pc := 110) rw_172_110 (x := (59 : Int32)) rfl rfl (s_v (pc := 112) rw_172_112 (dp0 hd (by decide)) (ls0 := [.ref 77, .int (59 : Int32)]) rfl (Nat.le_of_ble_eq_true rfl) (Nat.le_of_ble_eq_true rfl) rfl (to_rc rfl rfl rfl (g_o hG181 rfl)) rfl ?_)))
                have k_191 : (59 : Int32).toInt = 59 := rfl
                refine C_160 hX (dp1 hd (by decide)) hG181 (by omega) (c := (59 : Int32)) (fun r192 M201 hG194 F193 p_195 p_196 p_197 p_198 p_199 p_200 => ?_)
                have F202 := FR.c F186 F193 tg_77
                have b_203 := g_b hG194 (a := 77) (i := 7) (lo := 0) (hi := 500) rfl rfl
                have c_204 : M201.2.1 77 6 = (M.2.1 77 6) := (F_n F193 (show ¬ (77 = 77 ∧ (6 = 4 ∨ 6 = 5 ∨ 7 ≤ 6 ∧ 6 ≤ 10)) by decide) c_188)
                have t_205 : (M201.2.1 77 6).toInt = (M.2.1 77 6).toInt := congrArg Int32.toInt c_204
                have b_206 := g_b hG194 (a := 77) (i := 8) (lo := 0) (hi := 5) rfl rfl
                refine s_r1 (pc := 115) rw_172_115 (A := r192.toInt) rfl (by omega) ?_
                have j_207 := (FA_f (tg_224 F193) (FA_f (tg_220 F180) (FA_f (fun a i z => W_n W172 (tg_233 a i z) rfl) (FA_f (tg_220 F139) q4))))
                have j_208 := (WR_f (tg_226 F193) (WR_f (tg_222 F180) (WR_f (fun a i z => W_n W172 (by /-r77,14-/ omega) rfl) (WR_f (tg_222 F139) q5))))
                exact h r192 M201 hG194 F202 (by omega) (by omega) (by omega) (by omega) (by omega) (by omega) j_207 j_208
              · refine to_an (pc := 30) rw_162_30 rfl (to_c (pc := 31) rw_162_31 (x := (2 : Int32)) rfl rfl (s_v (pc := 32) rw_162_32 (dp1 hd (by decide)) (ls0 := [.ref 77, .int (2 : Int32)]) rfl (Nat.le_of_ble_eq_true rfl) (Nat.le_of_ble_eq_true rfl) rfl (to_rc rfl rfl rfl (g_o hG140 rfl)) rfl (to_an (pc := 0) rw_152_0 rfl (to_in (pc := 1) rw_152_1 rfl (s_pI (pc := 2) rw_152_2 hG140 rfl (fun M210 W209 => ?_))))))
                have hG211 := g_wf hG140 W209 rfl rfl (by decide)
                have F212 := FR.w F145 W209 (show 77 = 77 ∧ (4 = 4 ∨ 4 = 5 ∨ 7 ≤ 4 ∧ 4 ≤ 10 ∨ 14 ≤ 4 ∧ 4 ≤ 16 ∨ 4 = 25) ∨ 80 ≤ 77 ∧ 77 ≤ 84 ∧ 8 ≤ 4 ∨ 85 ≤ 77 ∧ 77 ≤ 87 ∧ 12 ≤ 4 by decide)
                refine to_an (pc := 5) rw_152_5 rfl (to_an (pc := 6) rw_152_6 rfl ?_)
                have c_213 : M210.2.1 77 10 = (M144.2.1 77 10) := (W_n W209 (by decide) rfl)
                have b_214 := g_b hG140 (a := 77) (i := 10) (lo := 0) (hi := 500) rfl rfl
                refine tt_gI (pc := 7) rw_152_7 (g_o hG211 rfl) (v := (M144.2.1 77 10)) c_213 (s_pI (pc := 10) rw_152_10 hG211 rfl (fun M216 W215 => ?_))
                have hG217 := g_wf hG211 W215 rfl rfl (by decide)
                have F218 := FR.w F212 W215 (show 77 = 77 ∧ (5 = 4 ∨ 5 = 5 ∨ 7 ≤ 5 ∧ 5 ≤ 10 ∨ 14 ≤ 5 ∧ 5 ≤ 16 ∨ 5 = 25) ∨ 80 ≤ 77 ∧ 77 ≤ 84 ∧ 8 ≤ 5 ∨ 85 ≤ 77 ∧ 77 ≤ 87 ∧ 12 ≤ 5 by decide)
                refine to_c (pc := 13) rw_152_13 (x := (0 : Int32)) rfl rfl (s_r1 (pc := 14) rw_152_14 (A := 0) rfl (by decide) (b_ieq_t (pc := 35) rw_162_35 (A := 0) rfl (by decide) (to_c (pc := 42) rw_162_42 (x := (0 : Int32)) rfl rfl (s_r1 (pc := 43) rw_162_43 (A := 0) rfl (by decide) (b_ine_f (pc := 62) rw_172_62 (A := 0) rfl (by decide) (to_c (pc := 65) rw_172_65 (x := (0 : Int32)) rfl rfl (s_r1 (pc := 66) rw_172_66 (A := 0) rfl (by decide) ?_)))))))
                have k_219 : (0 : Int32).toInt = 0 := rfl
                have c_220 : M216.2.1 77 7 = (M144.2.1 77 7) := (W_n W215 (by decide) (W_n W209 (by decide) rfl))
                have t_221 : (M216.2.1 77 7).toInt = (M144.2.1 77 7).toInt := congrArg Int32.toInt c_220
                have c_222 : M216.2.1 77 6 = (M.2.1 77 6) := (W_n W215 (by decide) (W_n W209 (by decide) c_147))
                have t_223 : (M216.2.1 77 6).toInt = (M.2.1 77 6).toInt := congrArg Int32.toInt c_222
                have c_224 : M216.2.1 77 8 = (M144.2.1 77 8) := (W_n W215 (by decide) (W_n W209 (by decide) rfl))
                have t_225 : (M216.2.1 77 8).toInt = (M144.2.1 77 8).toInt := congrArg Int32.toInt c_224
                have j_226 := (FA_f (fun a i z => W_n W215 (tg_231 a i z) rfl) (FA_f (fun a i z => W_n W209 (tg_232 a i z) rfl) (FA_f (tg_220 F139) q4)))
                have j_227 := (WR_f (fun a i z => W_n W215 (by /-r77,5-/ omega) rfl) (WR_f (fun a i z => W_n W209 (by /-r77,4-/ omega) rfl) (WR_f (tg_222 F139) q5)))
                exact h (0 : Int32) M216 hG217 F218 (by decide) (by decide) (by omega) (by omega) (by omega) (by omega) j_226 j_227
          · refine to_an (pc := 8) rw_162_8 rfl (to_c (pc := 9) rw_162_9 (x := (1 : Int32)) rfl rfl (s_v (pc := 10) rw_162_10 (dp1 hd (by decide)) (ls0 := [.ref 77, .int (1 : Int32)]) rfl (Nat.le_of_ble_eq_true rfl) (Nat.le_of_ble_eq_true rfl) rfl (to_rc rfl rfl rfl (g_o hG140 rfl)) rfl (to_an (pc := 0) rw_152_0 rfl (to_in (pc := 1) rw_152_1 rfl (s_pI (pc := 2) rw_152_2 hG140 rfl (fun M229 W228 => ?_))))))
            have hG230 := g_wf hG140 W228 rfl rfl (by decide)
            have F231 := FR.w F145 W228 (show 77 = 77 ∧ (4 = 4 ∨ 4 = 5 ∨ 7 ≤ 4 ∧ 4 ≤ 10 ∨ 14 ≤ 4 ∧ 4 ≤ 16 ∨ 4 = 25) ∨ 80 ≤ 77 ∧ 77 ≤ 84 ∧ 8 ≤ 4 ∨ 85 ≤ 77 ∧ 77 ≤ 87 ∧ 12 ≤ 4 by decide)
            refine to_an (pc := 5) rw_152_5 rfl (to_an (pc := 6) rw_152_6 rfl ?_)
            have c_232 : M229.2.1 77 10 = (M144.2.1 77 10) := (W_n W228 (by decide) rfl)
            have b_233 := g_b hG140 (a := 77) (i := 10) (lo := 0) (hi := 500) rfl rfl
            refine tt_gI (pc := 7) rw_152_7 (g_o hG230 rfl) (v := (M144.2.1 77 10)) c_232 (s_pI (pc := 10) rw_152_10 hG230 rfl (fun M235 W234 => ?_))
            have hG236 := g_wf hG230 W234 rfl rfl (by decide)
            have F237 := FR.w F231 W234 (show 77 = 77 ∧ (5 = 4 ∨ 5 = 5 ∨ 7 ≤ 5 ∧ 5 ≤ 10 ∨ 14 ≤ 5 ∧ 5 ≤ 16 ∨ 5 = 25) ∨ 80 ≤ 77 ∧ 77 ≤ 84 ∧ 8 ≤ 5 ∨ 85 ≤ 77 ∧ 77 ≤ 87 ∧ 12 ≤ 5 by decide)
            refine to_c (pc := 13) rw_152_13 (x := (0 : Int32)) rfl rfl (s_r1 (pc := 14) rw_152_14 (A := 0) rfl (by decide) (s_r1 (pc := 13) rw_162_13 (A := 0) rfl (by decide) (b_ine_f (pc := 62) rw_172_62 (A := 0) rfl (by decide) (to_c (pc := 65) rw_172_65 (x := (0 : Int32)) rfl rfl (s_r1 (pc := 66) rw_172_66 (A := 0) rfl (by decide) ?_)))))
            have k_238 : (0 : Int32).toInt = 0 := rfl
            have c_239 : M235.2.1 77 7 = (M144.2.1 77 7) := (W_n W234 (by decide) (W_n W228 (by decide) rfl))
            have t_240 : (M235.2.1 77 7).toInt = (M144.2.1 77 7).toInt := congrArg Int32.toInt c_239
            have c_241 : M235.2.1 77 6 = (M.2.1 77 6) := (W_n W234 (by decide) (W_n W228 (by decide) c_147))
            have t_242 : (M235.2.1 77 6).toInt = (M.2.1 77 6).toInt := congrArg Int32.toInt c_241
            have c_243 : M235.2.1 77 8 = (M144.2.1 77 8) := (W_n W234 (by decide) (W_n W228 (by decide) rfl))
            have t_244 : (M235.2.1 77 8).toInt = (M144.2.1 77 8).toInt := congrArg Int32.toInt c_243
            have j_245 := (FA_f (fun a i z => W_n W234 (tg_231 a i z) rfl) (FA_f (fun a i z => W_n W228 (tg_232 a i z) rfl) (FA_f (tg_220 F139) q4)))
            have j_246 := (WR_f (fun a i z => W_n W234 (by /-r77,5-/ omega) rfl) (WR_f (fun a i z => W_n W228 (by /-r77,4-/ omega) rfl) (WR_f (tg_222 F139) q5)))
            exact h (0 : Int32) M235 hG236 F237 (by decide) (by decide) (by omega) (by omega) (by omega) (by omega) j_245 j_246
        · refine to_an (pc := 27) rw_172_27 rfl (to_c (pc := 28) rw_172_28 (x := (1 : Int32)) rfl rfl (s_v (pc := 29) rw_172_29 (dp0 hd (by decide)) (ls0 := [.ref 77, .int (1 : Int32)]) rfl (Nat.le_of_ble_eq_true rfl) (Nat.le_of_ble_eq_true rfl) rfl (to_rc rfl rfl rfl (g_o hG rfl)) rfl (to_an (pc := 0) rw_152_0 rfl (to_in (pc := 1) rw_152_1 rfl (s_pI (pc := 2) rw_152_2 hG rfl (fun M248 W247 => ?_))))))
          have hG249 := g_wf hG W247 rfl rfl (by decide)
          have F250 := FR.w F0 W247 (show 77 = 77 ∧ (4 = 4 ∨ 4 = 5 ∨ 7 ≤ 4 ∧ 4 ≤ 10 ∨ 14 ≤ 4 ∧ 4 ≤ 16 ∨ 4 = 25) ∨ 80 ≤ 77 ∧ 77 ≤ 84 ∧ 8 ≤ 4 ∨ 85 ≤ 77 ∧ 77 ≤ 87 ∧ 12 ≤ 4 by decide)
          refine to_an (pc := 5) rw_152_5 rfl (to_an (pc := 6) rw_152_6 rfl ?_)
          have c_251 : M248.2.1 77 10 = (M.2.1 77 10) := (W_n W247 (by decide) rfl)
          have b_252 := g_b hG (a := 77) (i := 10) (lo := 0) (hi := 500) rfl rfl
          refine tt_gI (pc := 7) rw_152_7 (g_o hG249 rfl) (v := (M.2.1 77 10)) c_251 (s_pI (pc := 10) rw_152_10 hG249 rfl (fun M254 W253 => ?_))
          have hG255 := g_wf hG249 W253 rfl rfl (by decide)
          have F256 := FR.w F250 W253 (show 77 = 77 ∧ (5 = 4 ∨ 5 = 5 ∨ 7 ≤ 5 ∧ 5 ≤ 10 ∨ 14 ≤ 5 ∧ 5 ≤ 16 ∨ 5 = 25) ∨ 80 ≤ 77 ∧ 77 ≤ 84 ∧ 8 ≤ 5 ∨ 85 ≤ 77 ∧ 77 ≤ 87 ∧ 12 ≤ 5 by decide)
          refine to_c (pc := 13) rw_152_13 (x := (0 : Int32)) rfl rfl (s_r1 (pc := 14) rw_152_14 (A := 0) rfl (by decide) (s_r1 (pc := 32) rw_172_32 (A := 0) rfl (by decide) ?_))
          have k_257 : (0 : Int32).toInt = 0 := rfl
          have c_258 : M254.2.1 77 7 = (M.2.1 77 7) := (W_n W253 (by decide) (W_n W247 (by decide) rfl))
          have t_259 : (M254.2.1 77 7).toInt = (M.2.1 77 7).toInt := congrArg Int32.toInt c_258
          have c_260 : M254.2.1 77 6 = (M.2.1 77 6) := (W_n W253 (by decide) (W_n W247 (by decide) rfl))
          have t_261 : (M254.2.1 77 6).toInt = (M.2.1 77 6).toInt := congrArg Int32.toInt c_260
          have c_262 : M254.2.1 77 8 = (M.2.1 77 8) := (W_n W253 (by decide) (W_n W247 (by decide) rfl))
          have t_263 : (M254.2.1 77 8).toInt = (M.2.1 77 8).toInt := congrArg Int32.toInt c_262
          have j_264 := (FA_f (fun a i z => W_n W253 (tg_231 a i z) rfl) (FA_f (fun a i z => W_n W247 (tg_232 a i z) rfl) q4))
          have j_265 := (WR_f (fun a i z => W_n W253 (by /-r77,5-/ omega) rfl) (WR_f (fun a i z => W_n W247 (by /-r77,4-/ omega) rfl) q5))
          exact h (0 : Int32) M254 hG255 F256 (by decide) (by decide) (by omega) (by omega) (by omega) (by omega) j_264 j_265
