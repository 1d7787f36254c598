theorem tg_260 {M M1 : mm_M} (F : FR (fun a i : Nat => 94 ≤ a ∧ a ≤ 98) M M1) : ∀ a i : Nat, NJ_r a i → M1.2.1 a i = M.2.1 a i := fun a i z => F_n F (show ¬ (94 ≤ a ∧ a ≤ 98) by omega) rfl
theorem tg_261 : ∀ a i : Nat, (a < 0) → (94 ≤ a ∧ a ≤ 98) := fun a i z => by omega
theorem tg_262 : ∀ a i : Nat, (94 ≤ a ∧ a ≤ 98) → (94 ≤ a ∧ a ≤ 98) := fun a i z => by omega
theorem tg_263 : ∀ a i : Nat, (94 ≤ a ∧ a ≤ 98) → (a = 77 ∧ i = 2 ∨ 94 ≤ a ∧ a ≤ 98) := fun a i z => by omega
theorem tg_264 : ∀ a i : Nat, (a < 0) → (a = 77 ∧ i = 2 ∨ 94 ≤ a ∧ a ≤ 98) := fun a i z => by omega
set_option maxRecDepth 4000 in
set_option maxHeartbeats 0 in
theorem T_151_0 {X : mm_X} {d : Nat} {M : mm_M} {Q : Option Value → mm_M → Prop} {x : Int64} (hX : g_X X) (hd : 1 ≤ d) (h : ∀ (r : Int32) (M1 : mm_M), g_G M1 → FR md_0 M M1 → (0 ≤ r.toInt) → (r.toInt ≤ 62) → Q (some (.int r)) M1) : ∀ nn9 : Nat, (∀ (N : mm_M) (x2 : Int32) (x3 : Int32), g_G N → FR md_0 M N → (0 ≤ x3.toInt) → (x3.toInt ≤ 62) → (0 ≤ x2.toInt) → (x2.toInt ≤ 62) → (x2.toInt ≤ x3.toInt) → 62 - x3.toInt < (nn9 : Int) → mm_T X d 150 4 [.long x, .null, .int x2, .int x3] [] N Q) := by
  intro nn9
  induction nn9 with
  | zero =>
    intro N x2 x3 hG F0 g1 g2 g3 g4 g5 hm
    exfalso; omega
  | succ nn9 ih =>
    intro N x2 x3 hG F0 g1 g2 g3 g4 g5 hm
    refine to_in (pc := 4) rw_151_4 rfl (to_c (pc := 5) rw_151_5 (x := (62 : Int32)) rfl rfl (b_cge (pc := 7) rw_151_7 (A := x3.toInt) (B := 62) rfl rfl (fun h1 => ?_) (fun h1 => ?_)))
    · refine to_in (pc := 32) rw_151_32 rfl (to_r0 (pc := 33) rw_151_33 ?_)
      exact h x2 N hG F0 (by omega) (by omega)
    · refine to_in (pc := 10) rw_151_10 rfl (to_ln (pc := 11) rw_151_11 rfl rfl rfl (to_in (pc := 12) rw_151_12 rfl (s_s (pc := 13) rw_151_13 (dp0 hd (by decide)) (ls0 := [.long x, .null, .int x3]) rfl (Nat.le_of_ble_eq_true rfl) (Nat.le_of_ble_eq_true rfl) rfl (to_rcs rfl rfl) rfl (to_ln (pc := 0) rw_150_0 rfl rfl rfl (to_in (pc := 1) rw_150_1 rfl (s_anyS (pc := 2) rw_150_2 (fun _ _ => rfl) (fun l2 => s_cl (pc := 3) rw_150_3 rfl (fun l3 => s_anyL (pc := 4) rw_150_4 (fun _ _ => rfl) (fun l4 => s_cl (pc := 5) rw_150_5 rfl (fun l5 => s_lcmp (pc := 6) rw_150_6 (fun v6 => b_ine (pc := 7) rw_150_7 (A := v6.toInt) rfl (fun h7 => ?_) (fun h7 => ?_))))))))))))
      · refine to_c (pc := 14) rw_150_14 (x := (0 : Int32)) rfl rfl (s_r1 (pc := 15) rw_150_15 (A := 0) rfl (by decide) (b_ieq_t (pc := 16) rw_151_16 (A := 0) rfl (by decide) (to_c (pc := 23) rw_151_23 (x := (0 : Int32)) rfl rfl (s_add (pc := 24) rw_151_24 (A := x2.toInt) (B := 0) rfl rfl (by omega) (fun v8 e9 => to_isn (pc := 25) rw_151_25 (ls2 := [.long x, .null, .int v8, .int x3]) rfl rfl (s_inc (pc := 26) rw_151_26 (ls2 := fun v => [.long x, .null, .int v8, .int v]) rfl rfl (fun _ => rfl) (A := x3.toInt) (B := 1) rfl rfl (by omega) (fun v10 e11 => to_go (pc := 29) rw_151_29 ?_)))))))
        exact ih N v8 v10 hG F0 (by omega) (by omega) (by omega) (by omega) (by omega) (by omega)
      · refine to_c (pc := 10) rw_150_10 (x := (1 : Int32)) rfl rfl (to_go (pc := 11) rw_150_11 (s_r1 (pc := 15) rw_150_15 (A := 1) rfl (by decide) (b_ieq_f (pc := 16) rw_151_16 (A := 1) rfl (by decide) (to_c (pc := 19) rw_151_19 (x := (1 : Int32)) rfl rfl (to_go (pc := 20) rw_151_20 (s_add (pc := 24) rw_151_24 (A := x2.toInt) (B := 1) rfl rfl (by omega) (fun v12 e13 => to_isn (pc := 25) rw_151_25 (ls2 := [.long x, .null, .int v12, .int x3]) rfl rfl (s_inc (pc := 26) rw_151_26 (ls2 := fun v => [.long x, .null, .int v12, .int v]) rfl rfl (fun _ => rfl) (A := x3.toInt) (B := 1) rfl rfl (by omega) (fun v14 e15 => to_go (pc := 29) rw_151_29 ?_)))))))))
        exact ih N v12 v14 hG F0 (by omega) (by omega) (by omega) (by omega) (by omega) (by omega)
set_option maxRecDepth 4000 in
set_option maxHeartbeats 0 in
theorem C_151 {X : mm_X} {d : Nat} {M : mm_M} {Q : Option Value → mm_M → Prop} {x : Int64} (hX : g_X X) (hd : 1 ≤ d) (hG : g_G M) (h : ∀ (r : Int32) (M1 : mm_M), g_G M1 → FR md_0 M M1 → (0 ≤ r.toInt) → (r.toInt ≤ 62) → Q (some (.int r)) M1) : mm_T X d 150 0 [.long x, .null, .null, .null] [] M Q := by
  have F0 : FR md_0 M M := FR.rf
  refine to_c (pc := 0) rw_151_0 (x := (0 : Int32)) rfl rfl (to_isn (pc := 1) rw_151_1 (ls2 := [.long x, .null, .int (0 : Int32), .null]) rfl rfl (to_c (pc := 2) rw_151_2 (x := (0 : Int32)) rfl rfl (to_isn (pc := 3) rw_151_3 (ls2 := [.long x, .null, .int (0 : Int32), .int (0 : Int32)]) rfl rfl ?_)))
  have k_16 : (0 : Int32).toInt = 0 := rfl
  exact (T_151_0 (x := x) hX hd  h ((62 - (0 : Int32).toInt).toNat + 1)) M (0 : Int32) (0 : Int32) hG F0 (by omega) (by omega) (by omega) (by omega) (by omega) (by omega)
set_option maxRecDepth 4000 in
set_option maxHeartbeats 0 in
theorem C_174 {X : mm_X} {d : Nat} {M : mm_M} {Q : Option Value → mm_M → Prop} {w : Int32} (hX : g_X X) (hd : 0 ≤ d) (hG : g_G M) (h : ∀ (r : Int32) (M1 : mm_M), g_G M1 → FR md_2 M M1 → Q (some (.int r)) M1) : mm_T X d 173 0 [.ref 77, .int w] [] M Q := by
  have F0 : FR md_2 M M := FR.rf
  refine to_an (pc := 0) rw_174_0 rfl (to_c (pc := 1) rw_174_1 (x := (0 : Int32)) rfl rfl (s_pI (pc := 2) rw_174_2 hG rfl (fun M2 W1 => ?_)))
  have hG3 := g_wf hG W1 rfl rfl (by decide)
  have F4 := FR.w F0 W1 (show 77 = 77 ∧ 2 = 2 by decide)
  refine to_in (pc := 5) rw_174_5 rfl (b_ine (pc := 6) rw_174_6 (A := w.toInt) rfl (fun h5 => ?_) (fun h5 => ?_))
  · refine to_in (pc := 16) rw_174_16 rfl (to_c (pc := 17) rw_174_17 (x := (1 : Int32)) rfl rfl (b_cne (pc := 18) rw_174_18 (A := w.toInt) (B := 1) rfl rfl (fun h6 => ?_) (fun h6 => ?_)))
    · refine to_c (pc := 28) rw_174_28 (x := (-1 : Int32)) rfl rfl (to_r0 (pc := 29) rw_174_29 ?_)
      have k_7 : (-1 : Int32).toInt = -1 := rfl
      exact h (-1 : Int32) M2 hG3 F4 
    · refine to_an (pc := 21) rw_174_21 rfl ?_
      have c_8 : M2.2.1 77 5 = (M.2.1 77 5) := (W_n W1 (by decide) rfl)
      refine tt_gI (pc := 22) rw_174_22 (g_o hG3 rfl) (v := (M.2.1 77 5)) c_8 (to_go (pc := 25) rw_174_25 (to_r0 (pc := 29) rw_174_29 ?_))
      exact h (M.2.1 77 5) M2 hG3 F4 
  · refine to_an (pc := 9) rw_174_9 rfl ?_
    have c_9 : M2.2.1 77 4 = (M.2.1 77 4) := (W_n W1 (by decide) rfl)
    refine tt_gI (pc := 10) rw_174_10 (g_o hG3 rfl) (v := (M.2.1 77 4)) c_9 (to_go (pc := 13) rw_174_13 (to_r0 (pc := 29) rw_174_29 ?_))
    exact h (M.2.1 77 4) M2 hG3 F4 
set_option maxRecDepth 4000 in
set_option maxHeartbeats 0 in
theorem T_175_0 {X : mm_X} {d : Nat} {M : mm_M} {Q : Option Value → mm_M → Prop} {n : Int32} (hX : g_X X) (hd : 0 ≤ d) (h : ∀ (r : Int32) (M1 : mm_M), g_G M1 → FR md_0 M M1 → (-1 ≤ r.toInt) → (r.toInt ≤ 7) → (r.toInt < (M.2.1 77 12).toInt) → Q (some (.int r)) M1) : ∀ nn9 : Nat, (∀ (N : mm_M) (x2 : Int32), g_G N → FR md_0 M N → (0 ≤ x2.toInt) → (x2.toInt ≤ 8) → ((N.2.1 77 12).toInt = (M.2.1 77 12).toInt) → 8 - x2.toInt < (nn9 : Int) → mm_T X d 174 2 [.ref 77, .int n, .int x2] [] N Q) := by
  intro nn9
  induction nn9 with
  | zero =>
    intro N x2 hG F0 g1 g2 g3 hm
    have b_1 := g_b hG (a := 77) (i := 12) (lo := 0) (hi := 8) rfl rfl
    exfalso; omega
  | succ nn9 ih =>
    intro N x2 hG F0 g1 g2 g3 hm
    have b_2 := g_b hG (a := 77) (i := 12) (lo := 0) (hi := 8) rfl rfl
    refine to_in (pc := 2) rw_175_2 rfl (to_an (pc := 3) rw_175_3 rfl (tt_gI (pc := 4) rw_175_4 (g_o hG rfl) (v := (N.2.1 77 12)) rfl (b_cge (pc := 7) rw_175_7 (A := x2.toInt) (B := (N.2.1 77 12).toInt) rfl rfl (fun h3 => ?_) (fun h3 => ?_))))
    · refine to_c (pc := 28) rw_175_28 (x := (-1 : Int32)) rfl rfl (to_r0 (pc := 29) rw_175_29 ?_)
      have k_4 : (-1 : Int32).toInt = -1 := rfl
      exact h (-1 : Int32) N hG F0 (by omega) (by omega) (by omega)
    · refine to_an (pc := 10) rw_175_10 rfl (s_gR (pc := 11) rw_175_11 hG rfl (v := 80) rfl (to_in (pc := 14) rw_175_14 rfl (s_ial (pc := 15) rw_175_15 hG rfl (n := 16) rfl rfl (A := x2.toInt) rfl (by omega) (by omega) (lo := -2147483648) (hi := 2147483647) rfl rfl (fun v5 w_6 _ _ => to_in (pc := 16) rw_175_16 rfl (b_cne (pc := 17) rw_175_17 (A := v5.toInt) (B := n.toInt) rfl rfl (fun h7 => ?_) (fun h7 => ?_))))))
      · refine s_inc (pc := 22) rw_175_22 (ls2 := fun v => [.ref 77, .int n, .int v]) rfl rfl (fun _ => rfl) (A := x2.toInt) (B := 1) rfl rfl (by omega) (fun v8 e9 => to_go (pc := 25) rw_175_25 ?_)
        exact ih N v8 hG F0 (by omega) (by omega) (by omega) (by omega)
      · refine to_in (pc := 20) rw_175_20 rfl (to_r0 (pc := 21) rw_175_21 ?_)
        exact h x2 N hG F0 (by omega) (by omega) (by omega)
set_option maxRecDepth 4000 in
set_option maxHeartbeats 0 in
theorem C_175 {X : mm_X} {d : Nat} {M : mm_M} {Q : Option Value → mm_M → Prop} {n : Int32} (hX : g_X X) (hd : 0 ≤ d) (hG : g_G M) (h : ∀ (r : Int32) (M1 : mm_M), g_G M1 → FR md_0 M M1 → (-1 ≤ r.toInt) → (r.toInt ≤ 7) → (r.toInt < (M.2.1 77 12).toInt) → Q (some (.int r)) M1) : mm_T X d 174 0 [.ref 77, .int n, .null] [] M Q := by
  have F0 : FR md_0 M M := FR.rf
  refine to_c (pc := 0) rw_175_0 (x := (0 : Int32)) rfl rfl (to_isn (pc := 1) rw_175_1 (ls2 := [.ref 77, .int n, .int (0 : Int32)]) rfl rfl ?_)
  have k_10 : (0 : Int32).toInt = 0 := rfl
  have b_11 := g_b hG (a := 77) (i := 12) (lo := 0) (hi := 8) rfl rfl
  exact (T_175_0 (n := n) hX hd  h ((8 - (0 : Int32).toInt).toNat + 1)) M (0 : Int32) hG F0 (by omega) (by omega) (by omega) (by omega)
set_option maxRecDepth 4000 in
set_option maxHeartbeats 0 in
theorem T_176_0 {X : mm_X} {d : Nat} {M : mm_M} {Q : Option Value → mm_M → Prop} {n : Int32} (hX : g_X X) (hd : 0 ≤ d) (h : ∀ (r : Int32) (M1 : mm_M), g_G M1 → FR md_0 M M1 → (-1 ≤ r.toInt) → (r.toInt ≤ 11) → (r.toInt < (M.2.1 77 13).toInt) → Q (some (.int r)) M1) : ∀ nn9 : Nat, (∀ (N : mm_M) (x2 : Int32), g_G N → FR md_0 M N → (0 ≤ x2.toInt) → (x2.toInt ≤ 12) → ((N.2.1 77 13).toInt = (M.2.1 77 13).toInt) → 12 - x2.toInt < (nn9 : Int) → mm_T X d 175 2 [.ref 77, .int n, .int x2] [] N Q) := by
  intro nn9
  induction nn9 with
  | zero =>
    intro N x2 hG F0 g1 g2 g3 hm
    have b_1 := g_b hG (a := 77) (i := 13) (lo := 0) (hi := 12) rfl rfl
    exfalso; omega
  | succ nn9 ih =>
    intro N x2 hG F0 g1 g2 g3 hm
    have b_2 := g_b hG (a := 77) (i := 13) (lo := 0) (hi := 12) rfl rfl
    refine to_in (pc := 2) rw_176_2 rfl (to_an (pc := 3) rw_176_3 rfl (tt_gI (pc := 4) rw_176_4 (g_o hG rfl) (v := (N.2.1 77 13)) rfl (b_cge (pc := 7) rw_176_7 (A := x2.toInt) (B := (N.2.1 77 13).toInt) rfl rfl (fun h3 => ?_) (fun h3 => ?_))))
    · refine to_c (pc := 28) rw_176_28 (x := (-1 : Int32)) rfl rfl (to_r0 (pc := 29) rw_176_29 ?_)
      have k_4 : (-1 : Int32).toInt = -1 := rfl
      exact h (-1 : Int32) N hG F0 (by omega) (by omega) (by omega)
    · refine to_an (pc := 10) rw_176_10 rfl (s_gR (pc := 11) rw_176_11 hG rfl (v := 85) rfl (to_in (pc := 14) rw_176_14 rfl (s_ial (pc := 15) rw_176_15 hG rfl (n := 24) rfl rfl (A := x2.toInt) rfl (by omega) (by omega) (lo := -2147483648) (hi := 2147483647) rfl rfl (fun v5 w_6 _ _ => to_in (pc := 16) rw_176_16 rfl (b_cne (pc := 17) rw_176_17 (A := v5.toInt) (B := n.toInt) rfl rfl (fun h7 => ?_) (fun h7 => ?_))))))
      · refine s_inc (pc := 22) rw_176_22 (ls2 := fun v => [.ref 77, .int n, .int v]) rfl rfl (fun _ => rfl) (A := x2.toInt) (B := 1) rfl rfl (by omega) (fun v8 e9 => to_go (pc := 25) rw_176_25 ?_)
        exact ih N v8 hG F0 (by omega) (by omega) (by omega) (by omega)
      · refine to_in (pc := 20) rw_176_20 rfl (to_r0 (pc := 21) rw_176_21 ?_)
        exact h x2 N hG F0 (by omega) (by omega) (by omega)
set_option maxRecDepth 4000 in
set_option maxHeartbeats 0 in
theorem C_176 {X : mm_X} {d : Nat} {M : mm_M} {Q : Option Value → mm_M → Prop} {n : Int32} (hX : g_X X) (hd : 0 ≤ d) (hG : g_G M) (h : ∀ (r : Int32) (M1 : mm_M), g_G M1 → FR md_0 M M1 → (-1 ≤ r.toInt) → (r.toInt ≤ 11) → (r.toInt < (M.2.1 77 13).toInt) → Q (some (.int r)) M1) : mm_T X d 175 0 [.ref 77, .int n, .null] [] M Q := by
  have F0 : FR md_0 M M := FR.rf
  refine to_c (pc := 0) rw_176_0 (x := (0 : Int32)) rfl rfl (to_isn (pc := 1) rw_176_1 (ls2 := [.ref 77, .int n, .int (0 : Int32)]) rfl rfl ?_)
  have k_10 : (0 : Int32).toInt = 0 := rfl
  have b_11 := g_b hG (a := 77) (i := 13) (lo := 0) (hi := 12) rfl rfl
  exact (T_176_0 (n := n) hX hd  h ((12 - (0 : Int32).toInt).toNat + 1)) M (0 : Int32) hG F0 (by omega) (by omega) (by omega) (by omega)
set_option maxRecDepth 4000 in
set_option maxHeartbeats 0 in
theorem C_177 {X : mm_X} {d : Nat} {M : mm_M} {Q : Option Value → mm_M → Prop} {w : Int32} {n : Int32} (hX : g_X X) (hd : 1 ≤ d) (hG : g_G M) (h : ∀ (r : Int32) (M1 : mm_M), g_G M1 → FR md_2 M M1 → Q (some (.int r)) M1) : mm_T X d 176 0 [.ref 77, .int w, .int n] [] M Q := by
  have F0 : FR md_2 M M := FR.rf
  refine to_an (pc := 0) rw_177_0 rfl (to_c (pc := 1) rw_177_1 (x := (0 : Int32)) rfl rfl (s_pI (pc := 2) rw_177_2 hG rfl (fun M2 W1 => ?_)))
  have hG3 := g_wf hG W1 rfl rfl (by decide)
  have F4 := FR.w F0 W1 (show 77 = 77 ∧ 2 = 2 by decide)
  refine to_in (pc := 5) rw_177_5 rfl (b_ine (pc := 6) rw_177_6 (A := w.toInt) rfl (fun h5 => ?_) (fun h5 => ?_))
  · refine to_in (pc := 17) rw_177_17 rfl (to_c (pc := 18) rw_177_18 (x := (1 : Int32)) rfl rfl (b_cne (pc := 19) rw_177_19 (A := w.toInt) (B := 1) rfl rfl (fun h6 => ?_) (fun h6 => ?_)))
    · refine to_c (pc := 30) rw_177_30 (x := (-1 : Int32)) rfl rfl (to_r0 (pc := 31) rw_177_31 ?_)
      have k_7 : (-1 : Int32).toInt = -1 := rfl
      exact h (-1 : Int32) M2 hG3 F4 
    · refine to_an (pc := 22) rw_177_22 rfl (to_in (pc := 23) rw_177_23 rfl (s_v (pc := 24) rw_177_24 (dp0 hd (by decide)) (ls0 := [.ref 77, .int n, .null]) rfl (Nat.le_of_ble_eq_true rfl) (Nat.le_of_ble_eq_true rfl) rfl (to_rc rfl rfl rfl (g_o hG3 rfl)) rfl ?_))
      have c_8 : M2.2.1 77 13 = (M.2.1 77 13) := (W_n W1 (by decide) rfl)
      have b_9 := g_b hG (a := 77) (i := 13) (lo := 0) (hi := 12) rfl rfl
      have t_10 : (M2.2.1 77 13).toInt = (M.2.1 77 13).toInt := congrArg Int32.toInt c_8
      refine C_176 hX (dp1 hd (by decide)) hG3 (n := n) (fun r11 M17 hG13 F12 p_14 p_15 p_16 => ?_)
      have F18 := FR.c F4 F12 tg_90
      refine to_go (pc := 27) rw_177_27 (to_r0 (pc := 31) rw_177_31 ?_)
      exact h r11 M17 hG13 F18 
  · refine to_an (pc := 9) rw_177_9 rfl (to_in (pc := 10) rw_177_10 rfl (s_v (pc := 11) rw_177_11 (dp0 hd (by decide)) (ls0 := [.ref 77, .int n, .null]) rfl (Nat.le_of_ble_eq_true rfl) (Nat.le_of_ble_eq_true rfl) rfl (to_rc rfl rfl rfl (g_o hG3 rfl)) rfl ?_))
    have c_19 : M2.2.1 77 12 = (M.2.1 77 12) := (W_n W1 (by decide) rfl)
    have b_20 := g_b hG (a := 77) (i := 12) (lo := 0) (hi := 8) rfl rfl
    have t_21 : (M2.2.1 77 12).toInt = (M.2.1 77 12).toInt := congrArg Int32.toInt c_19
    refine C_175 hX (dp1 hd (by decide)) hG3 (n := n) (fun r22 M28 hG24 F23 p_25 p_26 p_27 => ?_)
    have F29 := FR.c F4 F23 tg_90
    refine to_go (pc := 14) rw_177_14 (to_r0 (pc := 31) rw_177_31 ?_)
    exact h r22 M28 hG24 F29 
set_option maxRecDepth 4000 in
set_option maxHeartbeats 0 in
theorem C_182 {X : mm_X} {d : Nat} {M : mm_M} {Q : Option Value → mm_M → Prop} {f : Int32} {w : Int32} (hX : g_X X) (hd : 1 ≤ d) (hG : g_G M) (h : ∀ (r : Int32) (M1 : mm_M), g_G M1 → FR md_2 M M1 → Q (some (.int r)) M1) : mm_T X d 181 0 [.ref 77, .int f, .int w] [] M Q := by
  have F0 : FR md_2 M M := FR.rf
  refine to_an (pc := 0) rw_182_0 rfl (to_c (pc := 1) rw_182_1 (x := (0 : Int32)) rfl rfl (s_pI (pc := 2) rw_182_2 hG rfl (fun M2 W1 => ?_)))
  have hG3 := g_wf hG W1 rfl rfl (by decide)
  have F4 := FR.w F0 W1 (show 77 = 77 ∧ 2 = 2 by decide)
  refine to_an (pc := 5) rw_182_5 rfl (to_in (pc := 6) rw_182_6 rfl (s_v (pc := 7) rw_182_7 (dp0 hd (by decide)) (ls0 := [.ref 77, .int f]) rfl (Nat.le_of_ble_eq_true rfl) (Nat.le_of_ble_eq_true rfl) rfl (to_rc rfl rfl rfl (g_o hG3 rfl)) rfl (to_in (pc := 0) rw_178_0 rfl (b_ilt (pc := 1) rw_178_1 (A := f.toInt) rfl (fun h5 => ?_) (fun h5 => ?_)))))
  · refine to_c (pc := 16) rw_178_16 (x := (0 : Int32)) rfl rfl (s_r1 (pc := 17) rw_178_17 (A := 0) rfl (by decide) (b_ine_f (pc := 10) rw_182_10 (A := 0) rfl (by decide) (to_an (pc := 13) rw_182_13 rfl (to_c (pc := 14) rw_182_14 (x := (1 : Int32)) rfl rfl (s_v (pc := 15) rw_182_15 (dp0 hd (by decide)) (ls0 := [.ref 77, .int (1 : Int32)]) rfl (Nat.le_of_ble_eq_true rfl) (Nat.le_of_ble_eq_true rfl) rfl (to_rc rfl rfl rfl (g_o hG3 rfl)) rfl (to_an (pc := 0) rw_181_0 rfl (to_in (pc := 1) rw_181_1 rfl (s_pI (pc := 2) rw_181_2 hG3 rfl (fun M7 W6 => ?_)))))))))
    have hG8 := g_wf hG3 W6 rfl rfl (by decide)
    have F9 := FR.w F4 W6 (show 77 = 77 ∧ 2 = 2 by decide)
    refine to_c (pc := 5) rw_181_5 (x := (0 : Int32)) rfl rfl (to_r0 (pc := 6) rw_181_6 (to_r0 (pc := 18) rw_182_18 ?_))
    have k_10 : (0 : Int32).toInt = 0 := rfl
    exact h (0 : Int32) M7 hG8 F9 
  · refine to_in (pc := 4) rw_178_4 rfl (to_an (pc := 5) rw_178_5 rfl ?_)
    have c_11 : M2.2.1 77 12 = (M.2.1 77 12) := (W_n W1 (by decide) rfl)
    have b_12 := g_b hG (a := 77) (i := 12) (lo := 0) (hi := 8) rfl rfl
    refine tt_gI (pc := 6) rw_178_6 (g_o hG3 rfl) (v := (M.2.1 77 12)) c_11 (b_cge (pc := 9) rw_178_9 (A := f.toInt) (B := (M.2.1 77 12).toInt) rfl rfl (fun h13 => ?_) (fun h13 => ?_))
    · refine to_c (pc := 16) rw_178_16 (x := (0 : Int32)) rfl rfl (s_r1 (pc := 17) rw_178_17 (A := 0) rfl (by decide) (b_ine_f (pc := 10) rw_182_10 (A := 0) rfl (by decide) (to_an (pc := 13) rw_182_13 rfl (to_c (pc := 14) rw_182_14 (x := (1 : Int32)) rfl rfl (s_v (pc := 15) rw_182_15 (dp0 hd (by decide)) (ls0 := [.ref 77, .int (1 : Int32)]) rfl (Nat.le_of_ble_eq_true rfl) (Nat.le_of_ble_eq_true rfl) rfl (to_rc rfl rfl rfl (g_o hG3 rfl)) rfl (to_an (pc := 0) rw_181_0 rfl (to_in (pc := 1) rw_181_1 rfl (s_pI (pc := 2) rw_181_2 hG3 rfl (fun M15 W14 => ?_)))))))))
      have hG16 := g_wf hG3 W14 rfl rfl (by decide)
      have F17 := FR.w F4 W14 (show 77 = 77 ∧ 2 = 2 by decide)
      refine to_c (pc := 5) rw_181_5 (x := (0 : Int32)) rfl rfl (to_r0 (pc := 6) rw_181_6 (to_r0 (pc := 18) rw_182_18 ?_))
      have k_18 : (0 : Int32).toInt = 0 := rfl
      exact h (0 : Int32) M15 hG16 F17 
    · refine to_c (pc := 12) rw_178_12 (x := (1 : Int32)) rfl rfl (to_go (pc := 13) rw_178_13 (s_r1 (pc := 17) rw_178_17 (A := 1) rfl (by decide) (b_ine_t (pc := 10) rw_182_10 (A := 1) rfl (by decide) (to_in (pc := 19) rw_182_19 rfl ?_))))
      rcases (show w.toInt = 0 ∨ w.toInt = 1 ∨ w.toInt = 2 ∨ w.toInt = 3 ∨ (w.toInt < 0 ∨ 3 < w.toInt) by omega) with h19 | h19 | h19 | h19 | h19
      · refine s_sw (pc := 20) rw_182_20 (A := w.toInt) (k := 0) (t := 52) rfl h19 (by decide) rfl (to_an (pc := 52) rw_182_52 rfl (s_gR (pc := 53) rw_182_53 hG3 rfl (v := 81) rfl (to_in (pc := 56) rw_182_56 rfl (s_ial (pc := 57) rw_182_57 hG3 rfl (n := 16) rfl rfl (A := f.toInt) rfl (by omega) (by omega) (lo := 0) (hi := 3) rfl rfl (fun v20 w_21 _ _ => to_r0 (pc := 58) rw_182_58 ?_)))))
        exact h v20 M2 hG3 F4 
      · refine s_sw (pc := 20) rw_182_20 (A := w.toInt) (k := 1) (t := 59) rfl h19 (by decide) rfl (to_an (pc := 59) rw_182_59 rfl (s_gR (pc := 60) rw_182_60 hG3 rfl (v := 82) rfl (to_in (pc := 63) rw_182_63 rfl (s_ial (pc := 64) rw_182_64 hG3 rfl (n := 16) rfl rfl (A := f.toInt) rfl (by omega) (by omega) (lo := 0) (hi := 59) rfl rfl (fun v22 w_23 _ _ => to_r0 (pc := 65) rw_182_65 ?_)))))
        exact h v22 M2 hG3 F4 
      · refine s_sw (pc := 20) rw_182_20 (A := w.toInt) (k := 2) (t := 66) rfl h19 (by decide) rfl (to_an (pc := 66) rw_182_66 rfl (s_gR (pc := 67) rw_182_67 hG3 rfl (v := 83) rfl (to_in (pc := 70) rw_182_70 rfl (s_ial (pc := 71) rw_182_71 hG3 rfl (n := 16) rfl rfl (A := f.toInt) rfl (by omega) (by omega) (lo := 0) (hi := 63) rfl rfl (fun v24 w_25 _ _ => to_r0 (pc := 72) rw_182_72 ?_)))))
        exact h v24 M2 hG3 F4 
      · refine s_sw (pc := 20) rw_182_20 (A := w.toInt) (k := 3) (t := 73) rfl h19 (by decide) rfl (to_an (pc := 73) rw_182_73 rfl (s_gR (pc := 74) rw_182_74 hG3 rfl (v := 84) rfl (to_in (pc := 77) rw_182_77 rfl (s_ial (pc := 78) rw_182_78 hG3 rfl (n := 16) rfl rfl (A := f.toInt) rfl (by omega) (by omega) (lo := 0) (hi := 24) rfl rfl (fun v26 w_27 _ _ => to_r0 (pc := 79) rw_182_79 ?_)))))
        exact h v26 M2 hG3 F4 
      · refine s_swd (pc := 20) rw_182_20 (A := w.toInt) rfl h19 (to_an (pc := 80) rw_182_80 rfl (to_c (pc := 81) rw_182_81 (x := (2 : Int32)) rfl rfl (s_v (pc := 82) rw_182_82 (dp0 hd (by decide)) (ls0 := [.ref 77, .int (2 : Int32)]) rfl (Nat.le_of_ble_eq_true rfl) (Nat.le_of_ble_eq_true rfl) rfl (to_rc rfl rfl rfl (g_o hG3 rfl)) rfl (to_an (pc := 0) rw_181_0 rfl (to_in (pc := 1) rw_181_1 rfl (s_pI (pc := 2) rw_181_2 hG3 rfl (fun M29 W28 => ?_)))))))
        have hG30 := g_wf hG3 W28 rfl rfl (by decide)
        have F31 := FR.w F4 W28 (show 77 = 77 ∧ 2 = 2 by decide)
        refine to_c (pc := 5) rw_181_5 (x := (0 : Int32)) rfl rfl (to_r0 (pc := 6) rw_181_6 (to_r0 (pc := 85) rw_182_85 ?_))
        have k_32 : (0 : Int32).toInt = 0 := rfl
        exact h (0 : Int32) M29 hG30 F31 
set_option maxRecDepth 4000 in
set_option maxHeartbeats 0 in
theorem C_183 {X : mm_X} {d : Nat} {M : mm_M} {Q : Option Value → mm_M → Prop} {f : Int32} {v : Int32} (hX : g_X X) (hd : 0 ≤ d) (hG : g_G M) (q1 : 0 ≤ f.toInt) (q2 : f.toInt ≤ 15) (q3 : 0 ≤ v.toInt) (q4 : (M.2.1 81 (f.toInt).toNat).toInt = 0 ∨ v.toInt ≤ 9) (h : ∀ (r : Int64) (M1 : mm_M), g_G M1 → FR md_0 M M1 → Q (some (.long r)) M1) : mm_T X d 182 0 [.ref 77, .int f, .int v] [] M Q := by
  have F0 : FR md_0 M M := FR.rf
  refine to_an (pc := 0) rw_183_0 rfl (s_gR (pc := 1) rw_183_1 hG rfl (v := 81) rfl (to_in (pc := 4) rw_183_4 rfl (s_ial (pc := 5) rw_183_5 hG rfl (n := 16) rfl rfl (A := f.toInt) rfl (by omega) (by omega) (lo := 0) (hi := 3) rfl rfl (fun v1 w_2 _ _ => ?_))))
  have t_3 := congrArg Int32.toInt w_2
  refine b_ine (pc := 6) rw_183_6 (A := v1.toInt) rfl (fun h4 => ?_) (fun h4 => ?_)
  · refine to_an (pc := 15) rw_183_15 rfl (s_gR (pc := 16) rw_183_16 hG rfl (v := 81) rfl (to_in (pc := 19) rw_183_19 rfl (s_ialk (pc := 20) rw_183_20 hG rfl (n := 16) rfl rfl (A := f.toInt) rfl (by omega) (by omega) (v := v1) w_2 (to_c (pc := 21) rw_183_21 (x := (1 : Int32)) rfl rfl (b_cne (pc := 22) rw_183_22 (A := v1.toInt) (B := 1) rfl rfl (fun h7 => ?_) (fun h7 => ?_))))))
    · refine to_an (pc := 35) rw_183_35 rfl (s_gR (pc := 36) rw_183_36 hG rfl (v := 89) rfl (to_in (pc := 39) rw_183_39 rfl (s_ial (pc := 40) rw_183_40 hG rfl (n := 10) rfl rfl (A := v.toInt) rfl (by omega) (by omega) (lo := -2147483648) (hi := 2147483647) rfl rfl (fun v8 w_9 _ _ => s_i2l (pc := 41) rw_183_41 (fun l10 e11 => to_an (pc := 42) rw_183_42 rfl (s_gR (pc := 43) rw_183_43 hG rfl (v := 82) rfl (to_in (pc := 46) rw_183_46 rfl (s_ial (pc := 47) rw_183_47 hG rfl (n := 16) rfl rfl (A := f.toInt) rfl (by omega) (by omega) (lo := 0) (hi := 59) rfl rfl (fun v12 w_13 _ _ => s_anyS (pc := 48) rw_183_48 (fun _ _ => rfl) (fun l14 => to_rl (pc := 49) rw_183_49 ?_))))))))))
      exact h l14 M hG F0 
    · refine to_an (pc := 25) rw_183_25 rfl (s_gR (pc := 26) rw_183_26 hG rfl (v := 88) rfl (to_in (pc := 29) rw_183_29 rfl (s_ial (pc := 30) rw_183_30 hG rfl (n := 10) rfl rfl (A := v.toInt) rfl (by omega) (by omega) (lo := -2147483648) (hi := 2147483647) rfl rfl (fun v15 w_16 _ _ => s_i2l (pc := 31) rw_183_31 (fun l17 e18 => to_go (pc := 32) rw_183_32 (to_an (pc := 42) rw_183_42 rfl (s_gR (pc := 43) rw_183_43 hG rfl (v := 82) rfl (to_in (pc := 46) rw_183_46 rfl (s_ial (pc := 47) rw_183_47 hG rfl (n := 16) rfl rfl (A := f.toInt) rfl (by omega) (by omega) (lo := 0) (hi := 59) rfl rfl (fun v19 w_20 _ _ => s_anyS (pc := 48) rw_183_48 (fun _ _ => rfl) (fun l21 => to_rl (pc := 49) rw_183_49 ?_)))))))))))
      exact h l21 M hG F0 
  · refine s_cl (pc := 9) rw_183_9 rfl (fun l22 => to_in (pc := 10) rw_183_10 rfl (s_anyS (pc := 11) rw_183_11 (fun _ _ => rfl) (fun l23 => to_go (pc := 12) rw_183_12 (to_an (pc := 42) rw_183_42 rfl (s_gR (pc := 43) rw_183_43 hG rfl (v := 82) rfl (to_in (pc := 46) rw_183_46 rfl (s_ial (pc := 47) rw_183_47 hG rfl (n := 16) rfl rfl (A := f.toInt) rfl (by omega) (by omega) (lo := 0) (hi := 59) rfl rfl (fun v24 w_25 _ _ => s_anyS (pc := 48) rw_183_48 (fun _ _ => rfl) (fun l26 => to_rl (pc := 49) rw_183_49 ?_)))))))))
    exact h l26 M hG F0 
set_option maxRecDepth 4000 in
set_option maxHeartbeats 0 in
theorem C_185 {X : mm_X} {d : Nat} {M : mm_M} {Q : Option Value → mm_M → Prop} {f : Int32} {v : Int32} (hX : g_X X) (hd : 3 ≤ d) (hG : g_G M) (q1 : FA M) (h : ∀ (r : Int64) (M1 : mm_M), g_G M1 → FR md_2 M M1 → Q (some (.long r)) M1) : mm_T X d 184 0 [.ref 77, .int f, .int v] [] M Q := by
  have F0 : FR md_2 M M := FR.rf
  refine to_an (pc := 0) rw_185_0 rfl (to_c (pc := 1) rw_185_1 (x := (0 : Int32)) rfl rfl (s_pI (pc := 2) rw_185_2 hG rfl (fun M2 W1 => ?_)))
  have hG3 := g_wf hG W1 rfl rfl (by decide)
  have F4 := FR.w F0 W1 (show 77 = 77 ∧ 2 = 2 by decide)
  refine to_an (pc := 5) rw_185_5 rfl (to_in (pc := 6) rw_185_6 rfl (to_in (pc := 7) rw_185_7 rfl (s_v (pc := 8) rw_185_8 (dp0 hd (by decide)) (ls0 := [.ref 77, .int f, .int v]) rfl (Nat.le_of_ble_eq_true rfl) (Nat.le_of_ble_eq_true rfl) rfl (to_rc rfl rfl rfl (g_o hG3 rfl)) rfl (to_an (pc := 0) rw_184_0 rfl (to_in (pc := 1) rw_184_1 rfl (s_v (pc := 2) rw_184_2 (dp1 hd (by decide)) (ls0 := [.ref 77, .int f]) rfl (Nat.le_of_ble_eq_true rfl) (Nat.le_of_ble_eq_true rfl) rfl (to_rc rfl rfl rfl (g_o hG3 rfl)) rfl (to_an (pc := 0) rw_179_0 rfl (to_in (pc := 1) rw_179_1 rfl (s_v (pc := 2) rw_179_2 (dp2 hd (by decide)) (ls0 := [.ref 77, .int f]) rfl (Nat.le_of_ble_eq_true rfl) (Nat.le_of_ble_eq_true rfl) rfl (to_rc rfl rfl rfl (g_o hG3 rfl)) rfl (to_in (pc := 0) rw_178_0 rfl (b_ilt (pc := 1) rw_178_1 (A := f.toInt) rfl (fun h5 => ?_) (fun h5 => ?_))))))))))))
  · refine to_c (pc := 16) rw_178_16 (x := (0 : Int32)) rfl rfl (s_r1 (pc := 17) rw_178_17 (A := 0) rfl (by decide) (b_ieq_t (pc := 5) rw_179_5 (A := 0) rfl (by decide) (to_c (pc := 22) rw_179_22 (x := (0 : Int32)) rfl rfl (s_r1 (pc := 23) rw_179_23 (A := 0) rfl (by decide) (b_ieq_t (pc := 5) rw_184_5 (A := 0) rfl (by decide) (to_c (pc := 26) rw_184_26 (x := (0 : Int32)) rfl rfl (s_r1 (pc := 27) rw_184_27 (A := 0) rfl (by decide) (b_ieq_t (pc := 11) rw_185_11 (A := 0) rfl (by decide) (s_cl (pc := 23) rw_185_23 rfl (fun l6 => to_rl (pc := 24) rw_185_24 ?_))))))))))
    exact h l6 M2 hG3 F4 
  · refine to_in (pc := 4) rw_178_4 rfl (to_an (pc := 5) rw_178_5 rfl ?_)
    have c_7 : M2.2.1 77 12 = (M.2.1 77 12) := (W_n W1 (by decide) rfl)
    have b_8 := g_b hG (a := 77) (i := 12) (lo := 0) (hi := 8) rfl rfl
    refine tt_gI (pc := 6) rw_178_6 (g_o hG3 rfl) (v := (M.2.1 77 12)) c_7 (b_cge (pc := 9) rw_178_9 (A := f.toInt) (B := (M.2.1 77 12).toInt) rfl rfl (fun h9 => ?_) (fun h9 => ?_))
    · refine to_c (pc := 16) rw_178_16 (x := (0 : Int32)) rfl rfl (s_r1 (pc := 17) rw_178_17 (A := 0) rfl (by decide) (b_ieq_t (pc := 5) rw_179_5 (A := 0) rfl (by decide) (to_c (pc := 22) rw_179_22 (x := (0 : Int32)) rfl rfl (s_r1 (pc := 23) rw_179_23 (A := 0) rfl (by decide) (b_ieq_t (pc := 5) rw_184_5 (A := 0) rfl (by decide) (to_c (pc := 26) rw_184_26 (x := (0 : Int32)) rfl rfl (s_r1 (pc := 27) rw_184_27 (A := 0) rfl (by decide) (b_ieq_t (pc := 11) rw_185_11 (A := 0) rfl (by decide) (s_cl (pc := 23) rw_185_23 rfl (fun l10 => to_rl (pc := 24) rw_185_24 ?_))))))))))
      exact h l10 M2 hG3 F4 
    · refine to_c (pc := 12) rw_178_12 (x := (1 : Int32)) rfl rfl (to_go (pc := 13) rw_178_13 (s_r1 (pc := 17) rw_178_17 (A := 1) rfl (by decide) (b_ieq_f (pc := 5) rw_179_5 (A := 1) rfl (by decide) (to_an (pc := 8) rw_179_8 rfl (s_gR (pc := 9) rw_179_9 hG3 rfl (v := 81) rfl (to_in (pc := 12) rw_179_12 rfl (s_ial (pc := 13) rw_179_13 hG3 rfl (n := 16) rfl rfl (A := f.toInt) rfl (by omega) (by omega) (lo := 0) (hi := 3) rfl rfl (fun v11 w_12 _ _ => ?_))))))))
      have t_13 := congrArg Int32.toInt w_12
      have j_15 := (FA_f (fun a i z => W_n W1 (tg_94 a i z) rfl) q1)
      have j_14 := FA_u j_15 (f.toInt).toNat
      refine to_c (pc := 14) rw_179_14 (x := (3 : Int32)) rfl rfl (b_ceq (pc := 15) rw_179_15 (A := v11.toInt) (B := 3) rfl rfl (fun h16 => ?_) (fun h16 => ?_))
      · refine to_c (pc := 22) rw_179_22 (x := (0 : Int32)) rfl rfl (s_r1 (pc := 23) rw_179_23 (A := 0) rfl (by decide) (b_ieq_t (pc := 5) rw_184_5 (A := 0) rfl (by decide) (to_c (pc := 26) rw_184_26 (x := (0 : Int32)) rfl rfl (s_r1 (pc := 27) rw_184_27 (A := 0) rfl (by decide) (b_ieq_t (pc := 11) rw_185_11 (A := 0) rfl (by decide) (s_cl (pc := 23) rw_185_23 rfl (fun l17 => to_rl (pc := 24) rw_185_24 ?_)))))))
        exact h l17 M2 hG3 F4 
      · refine to_c (pc := 18) rw_179_18 (x := (1 : Int32)) rfl rfl (to_go (pc := 19) rw_179_19 (s_r1 (pc := 23) rw_179_23 (A := 1) rfl (by decide) (b_ieq_f (pc := 5) rw_184_5 (A := 1) rfl (by decide) (to_in (pc := 8) rw_184_8 rfl (b_ilt (pc := 9) rw_184_9 (A := v.toInt) rfl (fun h18 => ?_) (fun h18 => ?_))))))
        · refine to_c (pc := 26) rw_184_26 (x := (0 : Int32)) rfl rfl (s_r1 (pc := 27) rw_184_27 (A := 0) rfl (by decide) (b_ieq_t (pc := 11) rw_185_11 (A := 0) rfl (by decide) (s_cl (pc := 23) rw_185_23 rfl (fun l19 => to_rl (pc := 24) rw_185_24 ?_))))
          exact h l19 M2 hG3 F4 
        · refine to_in (pc := 12) rw_184_12 rfl (to_an (pc := 13) rw_184_13 rfl (s_gR (pc := 14) rw_184_14 hG3 rfl (v := 84) rfl (to_in (pc := 17) rw_184_17 rfl (s_ial (pc := 18) rw_184_18 hG3 rfl (n := 16) rfl rfl (A := f.toInt) rfl (by omega) (by omega) (lo := 0) (hi := 24) rfl rfl (fun v20 w_21 _ _ => ?_)))))
          have t_22 := congrArg Int32.toInt w_21
          refine b_cge (pc := 19) rw_184_19 (A := v.toInt) (B := v20.toInt) rfl rfl (fun h23 => ?_) (fun h23 => ?_)
          · refine to_c (pc := 26) rw_184_26 (x := (0 : Int32)) rfl rfl (s_r1 (pc := 27) rw_184_27 (A := 0) rfl (by decide) (b_ieq_t (pc := 11) rw_185_11 (A := 0) rfl (by decide) (s_cl (pc := 23) rw_185_23 rfl (fun l24 => to_rl (pc := 24) rw_185_24 ?_))))
            exact h l24 M2 hG3 F4 
          · refine to_c (pc := 22) rw_184_22 (x := (1 : Int32)) rfl rfl (to_go (pc := 23) rw_184_23 (s_r1 (pc := 27) rw_184_27 (A := 1) rfl (by decide) (b_ieq_f (pc := 11) rw_185_11 (A := 1) rfl (by decide) (to_an (pc := 14) rw_185_14 rfl (to_in (pc := 15) rw_185_15 rfl (to_in (pc := 16) rw_185_16 rfl (s_v (pc := 17) rw_185_17 (dp0 hd (by decide)) (ls0 := [.ref 77, .int f, .int v]) rfl (Nat.le_of_ble_eq_true rfl) (Nat.le_of_ble_eq_true rfl) rfl (to_rc rfl rfl rfl (g_o hG3 rfl)) rfl ?_)))))))
            have t_25 : (M2.2.1 81 (f.toInt).toNat).toInt = (M.2.1 81 (f.toInt).toNat).toInt := congrArg Int32.toInt (W_n W1 (by omega) rfl)
            refine C_183 hX (dp1 hd (by decide)) hG3 (by omega) (by omega) (by omega) (by omega) (f := f) (v := v) (fun r26 M29 hG28 F27 => ?_)
            have F30 := FR.c F4 F27 tg_90
            refine to_go (pc := 20) rw_185_20 (to_rl (pc := 24) rw_185_24 ?_)
            exact h r26 M29 hG28 F30 
set_option maxRecDepth 4000 in
set_option maxHeartbeats 0 in
theorem C_190 {X : mm_X} {d : Nat} {M : mm_M} {Q : Option Value → mm_M → Prop} {k : Int32} (hX : g_X X) (hd : 1 ≤ d) (hG : g_G M) (q1 : 0 ≤ k.toInt) (q2 : k.toInt ≤ 149) (q3 : k.toInt < (M.2.1 77 29).toInt) (q4 : NJ M) (h : ∀ (M1 : mm_M), g_G M1 → FR md_kn M M1 → Q (none) M1) : mm_T X d 189 0 [.ref 77, .int k, .null] [] M Q := by
  have F0 : FR md_kn M M := FR.rf
  have b_1 := g_b hG (a := 77) (i := 29) (lo := 0) (hi := 150) rfl rfl
  refine to_an (pc := 0) rw_190_0 rfl (s_gR (pc := 1) rw_190_1 hG rfl (v := 91) rfl (to_in (pc := 4) rw_190_4 rfl (s_ial (pc := 5) rw_190_5 hG rfl (n := 150) rfl rfl (A := k.toInt) rfl (by omega) (by omega) (lo := 0) (hi := 149) rfl rfl (fun v2 w_3 _ _ => ?_))))
  have j_4 := NJ_u (A := k.toInt) q4 (by omega) (by omega) (by omega)
  rw [w_3] at j_4
  refine to_isn (pc := 6) rw_190_6 (ls2 := [.ref 77, .int k, .int v2]) rfl rfl (to_an (pc := 7) rw_190_7 rfl (s_gR (pc := 8) rw_190_8 hG rfl (v := 90) rfl (to_in (pc := 11) rw_190_11 rfl (s_ial (pc := 12) rw_190_12 hG rfl (n := 150) rfl rfl (A := k.toInt) rfl (by omega) (by omega) (lo := 0) (hi := 5) rfl rfl (fun v5 w_6 _ _ => ?_)))))
  rw [w_6] at j_4
  rcases (show v5.toInt = 0 ∨ v5.toInt = 1 ∨ v5.toInt = 2 ∨ v5.toInt = 3 ∨ v5.toInt = 4 ∨ (v5.toInt < 0 ∨ 4 < v5.toInt) by omega) with h7 | h7 | h7 | h7 | h7 | h7
  · refine s_sw (pc := 13) rw_190_13 (A := v5.toInt) (k := 0) (t := 48) rfl h7 (by decide) rfl (to_an (pc := 48) rw_190_48 rfl (s_gR (pc := 49) rw_190_49 hG rfl (v := 96) rfl (to_in (pc := 52) rw_190_52 rfl (to_dup2 (pc := 53) rw_190_53 (s_lal (pc := 54) rw_190_54 hG rfl (n := 30) rfl (A := v2.toInt) rfl (by omega) (by omega) (fun l8 => to_an (pc := 55) rw_190_55 rfl (to_an (pc := 56) rw_190_56 rfl (s_gR (pc := 57) rw_190_57 hG rfl (v := 92) rfl (to_in (pc := 60) rw_190_60 rfl (s_ial (pc := 61) rw_190_61 hG rfl (n := 150) rfl rfl (A := k.toInt) rfl (by omega) (by omega) (lo := -2147483648) (hi := 2147483647) rfl rfl (fun v9 w_10 _ _ => ?_)))))))))))
    rw [w_10] at j_4
    refine to_an (pc := 62) rw_190_62 rfl (s_gR (pc := 63) rw_190_63 hG rfl (v := 93) rfl (to_in (pc := 66) rw_190_66 rfl (s_ial (pc := 67) rw_190_67 hG rfl (n := 150) rfl rfl (A := k.toInt) rfl (by omega) (by omega) (lo := -2147483648) (hi := 2147483647) rfl rfl (fun v11 w_12 _ _ => ?_))))
    rw [w_12] at j_4
    refine s_v (pc := 68) rw_190_68 (dp0 hd (by decide)) (ls0 := [.ref 77, .int v9, .int v11]) rfl (Nat.le_of_ble_eq_true rfl) (Nat.le_of_ble_eq_true rfl) rfl (to_rc rfl rfl rfl (g_o hG rfl)) rfl (C_183 hX (dp1 hd (by decide)) hG (by omega) (by omega) (by omega) (by omega) (f := v9) (v := v11) (fun r13 M16 hG15 F14 => ?_))
    have F17 := FR.c F0 F14 tg_261
    refine s_anyL (pc := 71) rw_190_71 (fun _ _ => rfl) (fun l18 => s_las (pc := 72) rw_190_72 hG15 rfl (n := 30) rfl (A := v2.toInt) rfl (by omega) (by omega) (fun M20 W19 => ?_))
    have hG21 := g_wl hG15 W19
    have F22 := FR.wl F17 W19 (show 94 ≤ 96 ∧ 96 ≤ 98 by decide)
    refine to_an (pc := 73) rw_190_73 rfl (s_gR (pc := 74) rw_190_74 hG21 rfl (v := 97) rfl (to_c (pc := 77) rw_190_77 (x := (8 : Int32)) rfl rfl (to_in (pc := 79) rw_190_79 rfl (s_mul (pc := 80) rw_190_80 (A := 8) (B := v2.toInt) rfl rfl (by omega) (fun v23 e24 => to_an (pc := 81) rw_190_81 rfl (s_gR (pc := 82) rw_190_82 hG21 rfl (v := 92) rfl (to_in (pc := 85) rw_190_85 rfl (s_ialk (pc := 86) rw_190_86 hG21 rfl (n := 150) rfl rfl (A := k.toInt) rfl (by omega) (by omega) (v := v9) (W_l W19 (F_n F14 (show ¬ (92 < 0) by decide) w_10)) (s_addo (pc := 87) rw_190_87 (A := v23.toInt) (B := v9.toInt) rfl rfl (fun v27 e28 => to_an (pc := 88) rw_190_88 rfl (s_gR (pc := 89) rw_190_89 hG21 rfl (v := 93) rfl ?_)))))))))))
    refine to_in (pc := 92) rw_190_92 rfl (s_ialk (pc := 93) rw_190_93 hG21 rfl (n := 150) rfl rfl (A := k.toInt) rfl (by omega) (by omega) (v := v11) (W_l W19 (F_n F14 (show ¬ (93 < 0) by decide) w_12)) (s_ias (pc := 94) rw_190_94 hG21 rfl (n := 240) rfl (A := v27.toInt) rfl (by omega) (by omega) (fun M32 W31 => ?_)))
    have hG33 := g_wf hG21 W31 rfl rfl (by decide)
    have F34 := FR.w F22 W31 (show 94 ≤ 97 ∧ 97 ≤ 98 by decide)
    refine to_go (pc := 95) rw_190_95 (to_rv (pc := 202) rw_190_202 ?_)
    exact h M32 hG33 F34 
  · refine s_sw (pc := 13) rw_190_13 (A := v5.toInt) (k := 1) (t := 98) rfl h7 (by decide) rfl (to_an (pc := 98) rw_190_98 rfl (s_gR (pc := 99) rw_190_99 hG rfl (v := 96) rfl (to_in (pc := 102) rw_190_102 rfl (to_dup2 (pc := 103) rw_190_103 (s_lal (pc := 104) rw_190_104 hG rfl (n := 30) rfl (A := v2.toInt) rfl (by omega) (by omega) (fun l35 => to_an (pc := 105) rw_190_105 rfl (s_gR (pc := 106) rw_190_106 hG rfl (v := 95) rfl (to_an (pc := 109) rw_190_109 rfl (s_gR (pc := 110) rw_190_110 hG rfl (v := 92) rfl (to_in (pc := 113) rw_190_113 rfl (s_ial (pc := 114) rw_190_114 hG rfl (n := 150) rfl rfl (A := k.toInt) rfl (by omega) (by omega) (lo := -2147483648) (hi := 2147483647) rfl rfl (fun v36 w_37 _ _ => ?_))))))))))))
    rw [w_37] at j_4
    refine s_lal (pc := 115) rw_190_115 hG rfl (n := 12) rfl (A := v36.toInt) rfl (by omega) (by omega) (fun l38 => s_anyL (pc := 116) rw_190_116 (fun _ _ => rfl) (fun l39 => s_las (pc := 117) rw_190_117 hG rfl (n := 30) rfl (A := v2.toInt) rfl (by omega) (by omega) (fun M41 W40 => ?_)))
    have hG42 := g_wl hG W40
    have F43 := FR.wl F0 W40 (show 94 ≤ 96 ∧ 96 ≤ 98 by decide)
    refine to_an (pc := 118) rw_190_118 rfl (s_gR (pc := 119) rw_190_119 hG42 rfl (v := 98) rfl (to_in (pc := 122) rw_190_122 rfl (to_dup2 (pc := 123) rw_190_123 (s_ial (pc := 124) rw_190_124 hG42 rfl (n := 30) rfl rfl (A := v2.toInt) rfl (by omega) (by omega) (lo := -2147483648) (hi := 2147483647) rfl rfl (fun v44 w_45 _ _ => to_c (pc := 125) rw_190_125 (x := (1 : Int32)) rfl rfl (to_an (pc := 126) rw_190_126 rfl (s_gR (pc := 127) rw_190_127 hG42 rfl (v := 92) rfl (to_in (pc := 130) rw_190_130 rfl (s_ialk (pc := 131) rw_190_131 hG42 rfl (n := 150) rfl rfl (A := k.toInt) rfl (by omega) (by omega) (v := v36) (W_l W40 w_37) (s_any (pc := 132) rw_190_132 (fun _ _ => rfl) (fun v48 => s_any (pc := 133) rw_190_133 (fun _ _ => rfl) (fun v49 => ?_))))))))))))
    refine s_ias (pc := 134) rw_190_134 hG42 rfl (n := 30) rfl (A := v2.toInt) rfl (by omega) (by omega) (fun M51 W50 => ?_)
    have hG52 := g_wf hG42 W50 rfl rfl (by decide)
    have F53 := FR.w F43 W50 (show 94 ≤ 98 ∧ 98 ≤ 98 by decide)
    refine to_go (pc := 135) rw_190_135 (to_rv (pc := 202) rw_190_202 ?_)
    exact h M51 hG52 F53 
  · refine s_sw (pc := 13) rw_190_13 (A := v5.toInt) (k := 2) (t := 138) rfl h7 (by decide) rfl (to_an (pc := 138) rw_190_138 rfl (s_gR (pc := 139) rw_190_139 hG rfl (v := 96) rfl (to_in (pc := 142) rw_190_142 rfl (to_dup2 (pc := 143) rw_190_143 (s_lal (pc := 144) rw_190_144 hG rfl (n := 30) rfl (A := v2.toInt) rfl (by omega) (by omega) (fun l54 => s_cl (pc := 145) rw_190_145 rfl (fun l55 => to_an (pc := 146) rw_190_146 rfl (s_gR (pc := 147) rw_190_147 hG rfl (v := 92) rfl (to_in (pc := 150) rw_190_150 rfl (s_ial (pc := 151) rw_190_151 hG rfl (n := 150) rfl rfl (A := k.toInt) rfl (by omega) (by omega) (lo := -2147483648) (hi := 2147483647) rfl rfl (fun v56 w_57 _ _ => ?_)))))))))))
    rw [w_57] at j_4
    refine s_anyS (pc := 152) rw_190_152 (fun _ _ => rfl) (fun l58 => s_anyL (pc := 153) rw_190_153 (fun _ _ => rfl) (fun l59 => s_las (pc := 154) rw_190_154 hG rfl (n := 30) rfl (A := v2.toInt) rfl (by omega) (by omega) (fun M61 W60 => ?_)))
    have hG62 := g_wl hG W60
    have F63 := FR.wl F0 W60 (show 94 ≤ 96 ∧ 96 ≤ 98 by decide)
    refine to_go (pc := 155) rw_190_155 (to_rv (pc := 202) rw_190_202 ?_)
    exact h M61 hG62 F63 
  · refine s_sw (pc := 13) rw_190_13 (A := v5.toInt) (k := 3) (t := 158) rfl h7 (by decide) rfl (to_an (pc := 158) rw_190_158 rfl (s_gR (pc := 159) rw_190_159 hG rfl (v := 96) rfl (to_in (pc := 162) rw_190_162 rfl (to_dup2 (pc := 163) rw_190_163 (s_lal (pc := 164) rw_190_164 hG rfl (n := 30) rfl (A := v2.toInt) rfl (by omega) (by omega) (fun l64 => s_cl (pc := 165) rw_190_165 rfl (fun l65 => to_an (pc := 166) rw_190_166 rfl (s_gR (pc := 167) rw_190_167 hG rfl (v := 92) rfl (to_in (pc := 170) rw_190_170 rfl (s_ial (pc := 171) rw_190_171 hG rfl (n := 150) rfl rfl (A := k.toInt) rfl (by omega) (by omega) (lo := -2147483648) (hi := 2147483647) rfl rfl (fun v66 w_67 _ _ => ?_)))))))))))
    rw [w_67] at j_4
    refine s_anyS (pc := 172) rw_190_172 (fun _ _ => rfl) (fun l68 => s_cl (pc := 173) rw_190_173 rfl (fun l69 => s_anyL (pc := 176) rw_190_176 (fun _ _ => rfl) (fun l70 => s_anyL (pc := 177) rw_190_177 (fun _ _ => rfl) (fun l71 => s_las (pc := 178) rw_190_178 hG rfl (n := 30) rfl (A := v2.toInt) rfl (by omega) (by omega) (fun M73 W72 => ?_)))))
    have hG74 := g_wl hG W72
    have F75 := FR.wl F0 W72 (show 94 ≤ 96 ∧ 96 ≤ 98 by decide)
    refine to_go (pc := 179) rw_190_179 (to_rv (pc := 202) rw_190_202 ?_)
    exact h M73 hG74 F75 
  · refine s_sw (pc := 13) rw_190_13 (A := v5.toInt) (k := 4) (t := 182) rfl h7 (by decide) rfl (to_an (pc := 182) rw_190_182 rfl (s_gR (pc := 183) rw_190_183 hG rfl (v := 95) rfl (to_in (pc := 186) rw_190_186 rfl (to_an (pc := 187) rw_190_187 rfl (to_in (pc := 188) rw_190_188 rfl (to_an (pc := 189) rw_190_189 rfl (s_gR (pc := 190) rw_190_190 hG rfl (v := 92) rfl (to_in (pc := 193) rw_190_193 rfl (s_ial (pc := 194) rw_190_194 hG rfl (n := 150) rfl rfl (A := k.toInt) rfl (by omega) (by omega) (lo := -2147483648) (hi := 2147483647) rfl rfl (fun v76 w_77 _ _ => ?_))))))))))
    rw [w_77] at j_4
    refine s_v (pc := 195) rw_190_195 (dp0 hd (by decide)) (ls0 := [.ref 77, .int v2, .int v76]) rfl (Nat.le_of_ble_eq_true rfl) (Nat.le_of_ble_eq_true rfl) rfl (to_rc rfl rfl rfl (g_o hG rfl)) rfl (to_in (pc := 0) rw_188_0 rfl (s_i2l (pc := 1) rw_188_1 (fun l78 e79 => to_an (pc := 2) rw_188_2 rfl (s_gR (pc := 3) rw_188_3 hG rfl (v := 82) rfl (to_an (pc := 6) rw_188_6 rfl (s_gR (pc := 7) rw_188_7 hG rfl (v := 86) rfl (to_in (pc := 10) rw_188_10 rfl (s_ial (pc := 11) rw_188_11 hG rfl (n := 24) rfl rfl (A := v2.toInt) rfl (by omega) (by omega) (lo := 0) (hi := 7) rfl rfl (fun v80 w_81 _ _ => s_ial (pc := 12) rw_188_12 hG rfl (n := 16) rfl rfl (A := v80.toInt) rfl (by omega) (by omega) (lo := 0) (hi := 59) rfl rfl (fun v82 w_83 _ _ => s_anyS (pc := 13) rw_188_13 (fun _ _ => rfl) (fun l84 => to_rl (pc := 14) rw_188_14 ?_)))))))))))
    refine s_las (pc := 198) rw_190_198 hG rfl (n := 12) rfl (A := v2.toInt) rfl (by omega) (by omega) (fun M86 W85 => ?_)
    have hG87 := g_wl hG W85
    have F88 := FR.wl F0 W85 (show 94 ≤ 95 ∧ 95 ≤ 98 by decide)
    refine to_go (pc := 199) rw_190_199 (to_rv (pc := 202) rw_190_202 ?_)
    exact h M86 hG87 F88 
  · refine s_swd (pc := 13) rw_190_13 (A := v5.toInt) rfl h7 (to_rv (pc := 202) rw_190_202 ?_)
    exact h M hG F0 
set_option maxRecDepth 4000 in
set_option maxHeartbeats 0 in
theorem T_189_0 {X : mm_X} {d : Nat} {M : mm_M} {Q : Option Value → mm_M → Prop} {n : Int32} (hX : g_X X) (hd : 2 ≤ d) (q1 : 0 ≤ n.toInt) (q2 : n.toInt ≤ 150) (q3 : n.toInt ≤ (M.2.1 77 29).toInt) (q4 : NJ M) (h : ∀ (M1 : mm_M), g_G M1 → FR md_kn M M1 → Q (none) M1) : ∀ nn9 : Nat, (∀ (N : mm_M) (x2 : Int32) (u3 : Value), g_G N → FR md_kn M N → (0 ≤ x2.toInt) → (x2.toInt ≤ 150) → (n.toInt ≤ (N.2.1 77 29).toInt) → (NJ N) → 150 - x2.toInt < (nn9 : Int) → mm_T X d 188 151 [.ref 77, .int n, .int x2, u3] [] N Q) := by
  intro nn9
  induction nn9 with
  | zero =>
    intro N x2 u3 hG F0 g1 g2 g3 g4 hm
    have b_1 := g_b hG (a := 77) (i := 29) (lo := 0) (hi := 150) rfl rfl
    exfalso; omega
  | succ nn9 ih =>
    intro N x2 u3 hG F0 g1 g2 g3 g4 hm
    have b_2 := g_b hG (a := 77) (i := 29) (lo := 0) (hi := 150) rfl rfl
    refine to_in (pc := 151) rw_189_151 rfl (to_in (pc := 152) rw_189_152 rfl (b_cge (pc := 153) rw_189_153 (A := x2.toInt) (B := n.toInt) rfl rfl (fun h3 => ?_) (fun h3 => ?_)))
    · refine to_rv (pc := 176) rw_189_176 ?_
      exact h N hG F0 
    · refine to_an (pc := 156) rw_189_156 rfl (s_gR (pc := 157) rw_189_157 hG rfl (v := 94) rfl (to_in (pc := 160) rw_189_160 rfl (s_bal (pc := 161) rw_189_161 hG rfl (n := 150) rfl (A := x2.toInt) rfl (by omega) (by omega) (lo := 0) (hi := 1) rfl rfl (fun v4 w_5 _ _ => b_ieq (pc := 162) rw_189_162 (A := v4.toInt) rfl (fun h6 => ?_) (fun h6 => ?_)))))
      · refine s_inc (pc := 170) rw_189_170 (ls2 := fun v => [.ref 77, .int n, .int v, u3]) rfl rfl (fun _ => rfl) (A := x2.toInt) (B := 1) rfl rfl (by omega) (fun v7 e8 => to_go (pc := 173) rw_189_173 ?_)
        exact ih N v7 (u3) hG F0 (by omega) (by omega) (by omega) g4 (by omega)
      · refine to_an (pc := 165) rw_189_165 rfl (to_in (pc := 166) rw_189_166 rfl (s_v (pc := 167) rw_189_167 (dp0 hd (by decide)) (ls0 := [.ref 77, .int x2, .null]) rfl (Nat.le_of_ble_eq_true rfl) (Nat.le_of_ble_eq_true rfl) rfl (to_rc rfl rfl rfl (g_o hG rfl)) rfl (C_190 hX (dp1 hd (by decide)) hG (by omega) (by omega) (by omega) g4 (k := x2) (fun M11 hG10 F9 => ?_))))
        have F12 := FR.c F0 F9 tg_262
        refine s_inc (pc := 170) rw_189_170 (ls2 := fun v => [.ref 77, .int n, .int v, u3]) rfl rfl (fun _ => rfl) (A := x2.toInt) (B := 1) rfl rfl (by omega) (fun v13 e14 => to_go (pc := 173) rw_189_173 ?_)
        have c_15 : M11.2.1 77 29 = (N.2.1 77 29) := (F_n F9 (show ¬ (94 ≤ 77 ∧ 77 ≤ 98) by decide) rfl)
        have t_16 : (M11.2.1 77 29).toInt = (N.2.1 77 29).toInt := congrArg Int32.toInt c_15
        have j_17 := (NJ_f (tg_260 F9) g4)
        exact ih M11 v13 (u3) hG10 F12 (by omega) (by omega) (by omega) j_17 (by omega)
set_option maxRecDepth 4000 in
set_option maxHeartbeats 0 in
theorem T_189_1 {X : mm_X} {d : Nat} {M : mm_M} {Q : Option Value → mm_M → Prop} {n : Int32} (hX : g_X X) (hd : 2 ≤ d) (q1 : 0 ≤ n.toInt) (q2 : n.toInt ≤ 150) (q3 : n.toInt ≤ (M.2.1 77 29).toInt) (q4 : NJ M) (h : ∀ (M1 : mm_M), g_G M1 → FR md_kn M M1 → Q (none) M1) : ∀ nn9 : Nat, (∀ (N : mm_M) (x2 : Int32) (u3 : Value), g_G N → FR md_kn M N → (0 ≤ x2.toInt) → (x2.toInt ≤ 30) → (n.toInt ≤ (N.2.1 77 29).toInt) → (NJ N) → (30 - x2.toInt) * 100 + 50 < (nn9 : Int) → mm_T X d 188 95 [.ref 77, .int n, .int x2, u3] [] N Q) ∧ (∀ (N : mm_M) (x2 : Int32) (x3 : Int32), g_G N → FR md_kn M N → (0 ≤ x2.toInt) → (x2.toInt ≤ 29) → (0 ≤ x3.toInt) → (x3.toInt ≤ 8) → (n.toInt ≤ (N.2.1 77 29).toInt) → (NJ N) → (30 - x2.toInt) * 100 + 8 - x3.toInt < (nn9 : Int) → mm_T X d 188 119 [.ref 77, .int n, .int x2, .int x3] [] N Q) := by
  intro nn9
  induction nn9 with
  | zero =>
    refine ⟨?_, ?_⟩
    · intro N x2 u3 hG F0 g1 g2 g3 g4 hm
      have b_18 := g_b hG (a := 77) (i := 29) (lo := 0) (hi := 150) rfl rfl
      exfalso; omega
    · intro N x2 x3 hG F0 g1 g2 g3 g4 g5 g6 hm
      have b_19 := g_b hG (a := 77) (i := 29) (lo := 0) (hi := 150) rfl rfl
      exfalso; omega
  | succ nn9 ih =>
    refine ⟨?_, ?_⟩
    · intro N x2 u3 hG F0 g1 g2 g3 g4 hm
      have b_20 := g_b hG (a := 77) (i := 29) (lo := 0) (hi := 150) rfl rfl
      refine to_in (pc := 95) rw_189_95 rfl (to_an (pc := 96) rw_189_96 rfl ?_)
      have b_21 := g_b hG (a := 77) (i := 28) (lo := 0) (hi := 30) rfl rfl
      refine tt_gI (pc := 97) rw_189_97 (g_o hG rfl) (v := (N.2.1 77 28)) rfl (b_cge (pc := 100) rw_189_100 (A := x2.toInt) (B := (N.2.1 77 28).toInt) rfl rfl (fun h22 => ?_) (fun h22 => ?_))
      · refine to_c (pc := 149) rw_189_149 (x := (0 : Int32)) rfl rfl (to_isn (pc := 150) rw_189_150 (ls2 := [.ref 77, .int n, .int (0 : Int32), u3]) rfl rfl ?_)
        have k_23 : (0 : Int32).toInt = 0 := rfl
        exact (T_189_0 (n := n) hX hd q1 q2 q3 q4 h ((150 - (0 : Int32).toInt).toNat + 1)) N (0 : Int32) (u3) hG F0 (by omega) (by omega) (by omega) g4 (by omega)
      · refine to_an (pc := 103) rw_189_103 rfl (s_gR (pc := 104) rw_189_104 hG rfl (v := 96) rfl (to_in (pc := 107) rw_189_107 rfl (s_cl (pc := 108) rw_189_108 rfl (fun l24 => s_las (pc := 109) rw_189_109 hG rfl (n := 30) rfl (A := x2.toInt) rfl (by omega) (by omega) (fun M26 W25 => ?_)))))
        have hG27 := g_wl hG W25
        have F28 := FR.wl F0 W25 (show 94 ≤ 96 ∧ 96 ≤ 98 by decide)
        refine to_an (pc := 110) rw_189_110 rfl (s_gR (pc := 111) rw_189_111 hG27 rfl (v := 98) rfl (to_in (pc := 114) rw_189_114 rfl (to_c (pc := 115) rw_189_115 (x := (0 : Int32)) rfl rfl (s_ias (pc := 116) rw_189_116 hG27 rfl (n := 30) rfl (A := x2.toInt) rfl (by omega) (by omega) (fun M30 W29 => ?_)))))
        have hG31 := g_wf hG27 W29 rfl rfl (by decide)
        have F32 := FR.w F28 W29 (show 94 ≤ 98 ∧ 98 ≤ 98 by decide)
        refine to_c (pc := 117) rw_189_117 (x := (0 : Int32)) rfl rfl (to_isn (pc := 118) rw_189_118 (ls2 := [.ref 77, .int n, .int x2, .int (0 : Int32)]) rfl rfl ?_)
        have k_33 : (0 : Int32).toInt = 0 := rfl
        have c_34 : M30.2.1 77 29 = (N.2.1 77 29) := (W_n W29 (fun z => absurd z.1 (by decide)) (W_l W25 rfl))
        have t_35 : (M30.2.1 77 29).toInt = (N.2.1 77 29).toInt := congrArg Int32.toInt c_34
        have j_36 := (NJ_f (fun a i z => W_n W29 (by /-r98-/ omega) rfl) (NJ_f (fun a i z => W_l W25 rfl) g4))
        exact ih.2 M30 x2 (0 : Int32) hG31 F32 (by omega) (by omega) (by omega) (by omega) (by omega) j_36 (by omega)
    · intro N x2 x3 hG F0 g1 g2 g3 g4 g5 g6 hm
      have b_37 := g_b hG (a := 77) (i := 29) (lo := 0) (hi := 150) rfl rfl
      refine to_in (pc := 119) rw_189_119 rfl (to_c (pc := 120) rw_189_120 (x := (8 : Int32)) rfl rfl (b_cge (pc := 122) rw_189_122 (A := x3.toInt) (B := 8) rfl rfl (fun h38 => ?_) (fun h38 => ?_)))
      · refine s_inc (pc := 143) rw_189_143 (ls2 := fun v => [.ref 77, .int n, .int v, .int x3]) rfl rfl (fun _ => rfl) (A := x2.toInt) (B := 1) rfl rfl (by omega) (fun v39 e40 => to_go (pc := 146) rw_189_146 ?_)
        exact ih.1 N v39 (.int x3) hG F0 (by omega) (by omega) (by omega) g6 (by omega)
      · refine to_an (pc := 125) rw_189_125 rfl (s_gR (pc := 126) rw_189_126 hG rfl (v := 97) rfl (to_c (pc := 129) rw_189_129 (x := (8 : Int32)) rfl rfl (to_in (pc := 131) rw_189_131 rfl (s_mul (pc := 132) rw_189_132 (A := 8) (B := x2.toInt) rfl rfl (by omega) (fun v41 e42 => to_in (pc := 133) rw_189_133 rfl (s_add (pc := 134) rw_189_134 (A := v41.toInt) (B := x3.toInt) rfl rfl (by omega) (fun v43 e44 => to_c (pc := 135) rw_189_135 (x := (-1 : Int32)) rfl rfl (s_ias (pc := 136) rw_189_136 hG rfl (n := 240) rfl (A := v43.toInt) rfl (by omega) (by omega) (fun M46 W45 => ?_)))))))))
        have hG47 := g_wf hG W45 rfl rfl (by decide)
        have F48 := FR.w F0 W45 (show 94 ≤ 97 ∧ 97 ≤ 98 by decide)
        refine s_inc (pc := 137) rw_189_137 (ls2 := fun v => [.ref 77, .int n, .int x2, .int v]) rfl rfl (fun _ => rfl) (A := x3.toInt) (B := 1) rfl rfl (by omega) (fun v49 e50 => to_go (pc := 140) rw_189_140 ?_)
        have c_51 : M46.2.1 77 29 = (N.2.1 77 29) := (W_n W45 (fun z => absurd z.1 (by decide)) rfl)
        have t_52 : (M46.2.1 77 29).toInt = (N.2.1 77 29).toInt := congrArg Int32.toInt c_51
        have j_53 := (NJ_f (fun a i z => W_n W45 (by /-r97-/ omega) rfl) g6)
        exact ih.2 M46 x2 v49 hG47 F48 (by omega) (by omega) (by omega) (by omega) (by omega) j_53 (by omega)
set_option maxRecDepth 4000 in
set_option maxHeartbeats 0 in
theorem T_189_2 {X : mm_X} {d : Nat} {M : mm_M} {Q : Option Value → mm_M → Prop} {n : Int32} (hX : g_X X) (hd : 2 ≤ d) (q1 : 0 ≤ n.toInt) (q2 : n.toInt ≤ 150) (q3 : n.toInt ≤ (M.2.1 77 29).toInt) (q4 : NJ M) (h : ∀ (M1 : mm_M), g_G M1 → FR md_kn M M1 → Q (none) M1) : ∀ nn9 : Nat, (∀ (N : mm_M) (x2 : Int32) (u3 : Value), g_G N → FR md_kn M N → (0 ≤ x2.toInt) → (x2.toInt ≤ 12) → (n.toInt ≤ (N.2.1 77 29).toInt) → (NJ N) → 12 - x2.toInt < (nn9 : Int) → mm_T X d 188 67 [.ref 77, .int n, .int x2, u3] [] N Q) := by
  intro nn9
  induction nn9 with
  | zero =>
    intro N x2 u3 hG F0 g1 g2 g3 g4 hm
    have b_54 := g_b hG (a := 77) (i := 29) (lo := 0) (hi := 150) rfl rfl
    exfalso; omega
  | succ nn9 ih =>
    intro N x2 u3 hG F0 g1 g2 g3 g4 hm
    have b_55 := g_b hG (a := 77) (i := 29) (lo := 0) (hi := 150) rfl rfl
    refine to_in (pc := 67) rw_189_67 rfl (to_an (pc := 68) rw_189_68 rfl ?_)
    have b_56 := g_b hG (a := 77) (i := 13) (lo := 0) (hi := 12) rfl rfl
    refine tt_gI (pc := 69) rw_189_69 (g_o hG rfl) (v := (N.2.1 77 13)) rfl (b_cge (pc := 72) rw_189_72 (A := x2.toInt) (B := (N.2.1 77 13).toInt) rfl rfl (fun h57 => ?_) (fun h57 => ?_))
    · refine to_c (pc := 93) rw_189_93 (x := (0 : Int32)) rfl rfl (to_isn (pc := 94) rw_189_94 (ls2 := [.ref 77, .int n, .int (0 : Int32), u3]) rfl rfl ?_)
      have k_58 : (0 : Int32).toInt = 0 := rfl
      exact (T_189_1 (n := n) hX hd q1 q2 q3 q4 h (((30 - (0 : Int32).toInt) * 100 + 50).toNat + 1)).1 N (0 : Int32) (u3) hG F0 (by omega) (by omega) (by omega) g4 (by omega)
    · refine to_an (pc := 75) rw_189_75 rfl (s_gR (pc := 76) rw_189_76 hG rfl (v := 95) rfl (to_in (pc := 79) rw_189_79 rfl (to_an (pc := 80) rw_189_80 rfl (s_gR (pc := 81) rw_189_81 hG rfl (v := 87) rfl (to_in (pc := 84) rw_189_84 rfl (s_lal (pc := 85) rw_189_85 hG rfl (n := 24) rfl (A := x2.toInt) rfl (by omega) (by omega) (fun l59 => s_las (pc := 86) rw_189_86 hG rfl (n := 12) rfl (A := x2.toInt) rfl (by omega) (by omega) (fun M61 W60 => ?_))))))))
      have hG62 := g_wl hG W60
      have F63 := FR.wl F0 W60 (show 94 ≤ 95 ∧ 95 ≤ 98 by decide)
      refine s_inc (pc := 87) rw_189_87 (ls2 := fun v => [.ref 77, .int n, .int v, u3]) rfl rfl (fun _ => rfl) (A := x2.toInt) (B := 1) rfl rfl (by omega) (fun v64 e65 => to_go (pc := 90) rw_189_90 ?_)
      have c_66 : M61.2.1 77 29 = (N.2.1 77 29) := (W_l W60 rfl)
      have t_67 : (M61.2.1 77 29).toInt = (N.2.1 77 29).toInt := congrArg Int32.toInt c_66
      have j_68 := (NJ_f (fun a i z => W_l W60 rfl) g4)
      exact ih M61 v64 (u3) hG62 F63 (by omega) (by omega) (by omega) j_68 (by omega)
set_option maxRecDepth 4000 in
set_option maxHeartbeats 0 in
theorem T_189_3 {X : mm_X} {d : Nat} {M : mm_M} {Q : Option Value → mm_M → Prop} {n : Int32} (hX : g_X X) (hd : 2 ≤ d) (q1 : 0 ≤ n.toInt) (q2 : n.toInt ≤ 150) (q3 : n.toInt ≤ (M.2.1 77 29).toInt) (q4 : NJ M) (h : ∀ (M1 : mm_M), g_G M1 → FR md_kn M M1 → Q (none) M1) : ∀ nn9 : Nat, (∀ (N : mm_M) (x2 : Int32) (u3 : Value), g_G N → FR md_kn M N → (-1 ≤ x2.toInt) → (x2.toInt ≤ 149) → (n.toInt ≤ (N.2.1 77 29).toInt) → (NJ N) → x2.toInt + 1 < (nn9 : Int) → mm_T X d 188 24 [.ref 77, .int n, .int x2, u3] [] N Q) := by
  intro nn9
  induction nn9 with
  | zero =>
    intro N x2 u3 hG F0 g1 g2 g3 g4 hm
    have b_69 := g_b hG (a := 77) (i := 29) (lo := 0) (hi := 150) rfl rfl
    exfalso; omega
  | succ nn9 ih =>
    intro N x2 u3 hG F0 g1 g2 g3 g4 hm
    have b_70 := g_b hG (a := 77) (i := 29) (lo := 0) (hi := 150) rfl rfl
    refine to_in (pc := 24) rw_189_24 rfl (b_ilt (pc := 25) rw_189_25 (A := x2.toInt) rfl (fun h71 => ?_) (fun h71 => ?_))
    · refine to_c (pc := 65) rw_189_65 (x := (0 : Int32)) rfl rfl (to_isn (pc := 66) rw_189_66 (ls2 := [.ref 77, .int n, .int (0 : Int32), u3]) rfl rfl ?_)
      have k_72 : (0 : Int32).toInt = 0 := rfl
      exact (T_189_2 (n := n) hX hd q1 q2 q3 q4 h ((12 - (0 : Int32).toInt).toNat + 1)) N (0 : Int32) (u3) hG F0 (by omega) (by omega) (by omega) g4 (by omega)
    · refine to_an (pc := 28) rw_189_28 rfl (s_gR (pc := 29) rw_189_29 hG rfl (v := 90) rfl (to_in (pc := 32) rw_189_32 rfl (s_ial (pc := 33) rw_189_33 hG rfl (n := 150) rfl rfl (A := x2.toInt) rfl (by omega) (by omega) (lo := 0) (hi := 5) rfl rfl (fun v73 w_74 _ _ => to_c (pc := 34) rw_189_34 (x := (5 : Int32)) rfl rfl (b_cne (pc := 35) rw_189_35 (A := v73.toInt) (B := 5) rfl rfl (fun h75 => ?_) (fun h75 => ?_))))))
      · refine s_inc (pc := 59) rw_189_59 (ls2 := fun v => [.ref 77, .int n, .int v, u3]) rfl rfl (fun _ => rfl) (A := x2.toInt) (B := -1) rfl rfl (by omega) (fun v76 e77 => to_go (pc := 62) rw_189_62 ?_)
        exact ih N v76 (u3) hG F0 (by omega) (by omega) (by omega) g4 (by omega)
      · refine to_an (pc := 38) rw_189_38 rfl (s_gR (pc := 39) rw_189_39 hG rfl (v := 94) rfl (to_in (pc := 42) rw_189_42 rfl (s_bal (pc := 43) rw_189_43 hG rfl (n := 150) rfl (A := x2.toInt) rfl (by omega) (by omega) (lo := 0) (hi := 1) rfl rfl (fun v78 w_79 _ _ => b_ieq (pc := 44) rw_189_44 (A := v78.toInt) rfl (fun h80 => ?_) (fun h80 => ?_)))))
        · refine s_inc (pc := 59) rw_189_59 (ls2 := fun v => [.ref 77, .int n, .int v, u3]) rfl rfl (fun _ => rfl) (A := x2.toInt) (B := -1) rfl rfl (by omega) (fun v81 e82 => to_go (pc := 62) rw_189_62 ?_)
          exact ih N v81 (u3) hG F0 (by omega) (by omega) (by omega) g4 (by omega)
        · refine to_an (pc := 47) rw_189_47 rfl (s_gR (pc := 48) rw_189_48 hG rfl (v := 94) rfl (to_an (pc := 51) rw_189_51 rfl (s_gR (pc := 52) rw_189_52 hG rfl (v := 91) rfl (to_in (pc := 55) rw_189_55 rfl (s_ial (pc := 56) rw_189_56 hG rfl (n := 150) rfl rfl (A := x2.toInt) rfl (by omega) (by omega) (lo := 0) (hi := 149) rfl rfl (fun v83 w_84 _ _ => to_c (pc := 57) rw_189_57 (x := (0 : Int32)) rfl rfl (s_zas (pc := 58) rw_189_58 hG rfl (n := 150) rfl (A := v83.toInt) rfl (by omega) (by omega) (B := 0) rfl (by omega) (fun M86 W85 => ?_))))))))
          have hG87 := g_w hG W85 (A := 0) rfl (lo := 0) (hi := 1) rfl rfl (by omega) (by decide)
          have F88 := FR.w F0 W85 (show 94 ≤ 94 ∧ 94 ≤ 98 by decide)
          refine s_inc (pc := 59) rw_189_59 (ls2 := fun v => [.ref 77, .int n, .int v, u3]) rfl rfl (fun _ => rfl) (A := x2.toInt) (B := -1) rfl rfl (by omega) (fun v89 e90 => to_go (pc := 62) rw_189_62 ?_)
          have c_91 : M86.2.1 77 29 = (N.2.1 77 29) := (W_n W85 (fun z => absurd z.1 (by decide)) rfl)
          have t_92 : (M86.2.1 77 29).toInt = (N.2.1 77 29).toInt := congrArg Int32.toInt c_91
          have j_93 := (NJ_f (fun a i z => W_n W85 (by /-r94-/ omega) rfl) g4)
          exact ih M86 v89 (u3) hG87 F88 (by omega) (by omega) (by omega) j_93 (by omega)
set_option maxRecDepth 4000 in
set_option maxHeartbeats 0 in
theorem T_189_4 {X : mm_X} {d : Nat} {M : mm_M} {Q : Option Value → mm_M → Prop} {n : Int32} (hX : g_X X) (hd : 2 ≤ d) (q1 : 0 ≤ n.toInt) (q2 : n.toInt ≤ 150) (q3 : n.toInt ≤ (M.2.1 77 29).toInt) (q4 : NJ M) (h : ∀ (M1 : mm_M), g_G M1 → FR md_kn M M1 → Q (none) M1) : ∀ nn9 : Nat, (∀ (N : mm_M) (x2 : Int32) (u3 : Value), g_G N → FR md_kn M N → (0 ≤ x2.toInt) → (x2.toInt ≤ 150) → (n.toInt ≤ (N.2.1 77 29).toInt) → (NJ N) → 150 - x2.toInt < (nn9 : Int) → mm_T X d 188 2 [.ref 77, .int n, .int x2, u3] [] N Q) := by
  intro nn9
  induction nn9 with
  | zero =>
    intro N x2 u3 hG F0 g1 g2 g3 g4 hm
    have b_94 := g_b hG (a := 77) (i := 29) (lo := 0) (hi := 150) rfl rfl
    exfalso; omega
  | succ nn9 ih =>
    intro N x2 u3 hG F0 g1 g2 g3 g4 hm
    have b_95 := g_b hG (a := 77) (i := 29) (lo := 0) (hi := 150) rfl rfl
    refine to_in (pc := 2) rw_189_2 rfl (to_in (pc := 3) rw_189_3 rfl (b_cge (pc := 4) rw_189_4 (A := x2.toInt) (B := n.toInt) rfl rfl (fun h96 => ?_) (fun h96 => ?_)))
    · refine to_in (pc := 20) rw_189_20 rfl (to_c (pc := 21) rw_189_21 (x := (1 : Int32)) rfl rfl (s_sub (pc := 22) rw_189_22 (A := n.toInt) (B := 1) rfl rfl (by omega) (fun v97 e98 => to_isn (pc := 23) rw_189_23 (ls2 := [.ref 77, .int n, .int v97, u3]) rfl rfl ?_)))
      exact (T_189_3 (n := n) hX hd q1 q2 q3 q4 h ((v97.toInt + 1).toNat + 1)) N v97 (u3) hG F0 (by omega) (by omega) (by omega) g4 (by omega)
    · refine to_an (pc := 7) rw_189_7 rfl (s_gR (pc := 8) rw_189_8 hG rfl (v := 94) rfl (to_in (pc := 11) rw_189_11 rfl (to_c (pc := 12) rw_189_12 (x := (1 : Int32)) rfl rfl (s_zas (pc := 13) rw_189_13 hG rfl (n := 150) rfl (A := x2.toInt) rfl (by omega) (by omega) (B := 1) rfl (by omega) (fun M100 W99 => ?_)))))
      have hG101 := g_w hG W99 (A := 1) rfl (lo := 0) (hi := 1) rfl rfl (by omega) (by decide)
      have F102 := FR.w F0 W99 (show 94 ≤ 94 ∧ 94 ≤ 98 by decide)
      refine s_inc (pc := 14) rw_189_14 (ls2 := fun v => [.ref 77, .int n, .int v, u3]) rfl rfl (fun _ => rfl) (A := x2.toInt) (B := 1) rfl rfl (by omega) (fun v103 e104 => to_go (pc := 17) rw_189_17 ?_)
      have c_105 : M100.2.1 77 29 = (N.2.1 77 29) := (W_n W99 (fun z => absurd z.1 (by decide)) rfl)
      have t_106 : (M100.2.1 77 29).toInt = (N.2.1 77 29).toInt := congrArg Int32.toInt c_105
      have j_107 := (NJ_f (fun a i z => W_n W99 (by /-r94-/ omega) rfl) g4)
      exact ih M100 v103 (u3) hG101 F102 (by omega) (by omega) (by omega) j_107 (by omega)
set_option maxRecDepth 4000 in
set_option maxHeartbeats 0 in
theorem C_189 {X : mm_X} {d : Nat} {M : mm_M} {Q : Option Value → mm_M → Prop} {n : Int32} (hX : g_X X) (hd : 2 ≤ d) (hG : g_G M) (q1 : 0 ≤ n.toInt) (q2 : n.toInt ≤ 150) (q3 : n.toInt ≤ (M.2.1 77 29).toInt) (q4 : NJ M) (h : ∀ (M1 : mm_M), g_G M1 → FR md_kn M M1 → Q (none) M1) : mm_T X d 188 0 [.ref 77, .int n, .null, .null] [] M Q := by
  have F0 : FR md_kn M M := FR.rf
  have b_108 := g_b hG (a := 77) (i := 29) (lo := 0) (hi := 150) rfl rfl
  refine to_c (pc := 0) rw_189_0 (x := (0 : Int32)) rfl rfl (to_isn (pc := 1) rw_189_1 (ls2 := [.ref 77, .int n, .int (0 : Int32), .null]) rfl rfl ?_)
  have k_109 : (0 : Int32).toInt = 0 := rfl
  exact (T_189_4 (n := n) hX hd q1 q2 q3 q4 h ((150 - (0 : Int32).toInt).toNat + 1)) M (0 : Int32) (.null) hG F0 (by omega) (by omega) (by omega) q4 (by omega)
set_option maxRecDepth 4000 in
set_option maxHeartbeats 0 in
theorem C_191 {X : mm_X} {d : Nat} {M : mm_M} {Q : Option Value → mm_M → Prop} {w : Int32} {o : Int32} {m : Int32} {v : Int32} (hX : g_X X) (hd : 0 ≤ d) (hG : g_G M) (q1 : 0 ≤ w.toInt) (q2 : w.toInt ≤ 5) (q3 : 0 ≤ o.toInt) (q4 : o.toInt ≤ 149) (q5 : (M.2.1 77 29).toInt ≤ 149) (q6 : w.toInt = 0 → o.toInt ≤ 29 ∧ (0 ≤ m.toInt ∧ m.toInt ≤ 7) ∧ 0 ≤ v.toInt ∧ ((M.2.1 81 (m.toInt).toNat).toInt = 0 ∨ v.toInt ≤ 9)) (q7 : w.toInt = 1 → o.toInt ≤ 29 ∧ 0 ≤ m.toInt ∧ m.toInt ≤ 11) (q8 : w.toInt = 2 → o.toInt ≤ 29) (q9 : w.toInt = 3 → o.toInt ≤ 29) (q10 : w.toInt = 4 → o.toInt ≤ 11) (q11 : NJ M) (h : ∀ (r : Int32) (M1 : mm_M), g_G M1 → FR md_te M M1 → (r.toInt = (M.2.1 77 29).toInt) → ((M1.2.1 77 29).toInt = (M.2.1 77 29).toInt + 1) → NJ M1 → Q (some (.int r)) M1) : mm_T X d 190 0 [.ref 77, .int w, .int o, .int m, .int v] [] M Q := by
  have F0 : FR md_te M M := FR.rf
  have b_1 := g_b hG (a := 77) (i := 29) (lo := 0) (hi := 150) rfl rfl
  refine to_an (pc := 0) rw_191_0 rfl (s_gR (pc := 1) rw_191_1 hG rfl (v := 90) rfl (to_an (pc := 4) rw_191_4 rfl (tt_gI (pc := 5) rw_191_5 (g_o hG rfl) (v := (M.2.1 77 29)) rfl (to_in (pc := 8) rw_191_8 rfl (s_ias (pc := 9) rw_191_9 hG rfl (n := 150) rfl (A := (M.2.1 77 29).toInt) rfl (by omega) (by omega) (fun M3 W2 => ?_))))))
  have hG4 := g_w hG W2 (A := w.toInt) rfl (lo := 0) (hi := 5) rfl rfl (by omega) (by decide)
  have F5 := FR.w F0 W2 (show 90 = 77 ∧ ((M.2.1 77 29).toInt).toNat = 29 ∨ 90 ≤ 90 ∧ 90 ≤ 93 by omega)
  refine to_an (pc := 10) rw_191_10 rfl (s_gR (pc := 11) rw_191_11 hG4 rfl (v := 91) rfl (to_an (pc := 14) rw_191_14 rfl ?_))
  have c_6 : M3.2.1 77 29 = (M.2.1 77 29) := (W_n W2 (fun z => absurd z.1 (by decide)) rfl)
  refine tt_gI (pc := 15) rw_191_15 (g_o hG4 rfl) (v := (M.2.1 77 29)) c_6 (to_in (pc := 18) rw_191_18 rfl (s_ias (pc := 19) rw_191_19 hG4 rfl (n := 150) rfl (A := (M.2.1 77 29).toInt) rfl (by omega) (by omega) (fun M8 W7 => ?_)))
  have hG9 := g_w hG4 W7 (A := o.toInt) rfl (lo := 0) (hi := 149) rfl rfl (by omega) (by decide)
  have F10 := FR.w F5 W7 (show 91 = 77 ∧ ((M.2.1 77 29).toInt).toNat = 29 ∨ 90 ≤ 91 ∧ 91 ≤ 93 by omega)
  refine to_an (pc := 20) rw_191_20 rfl (s_gR (pc := 21) rw_191_21 hG9 rfl (v := 92) rfl (to_an (pc := 24) rw_191_24 rfl ?_))
  have c_11 : M8.2.1 77 29 = (M.2.1 77 29) := (W_n W7 (fun z => absurd z.1 (by decide)) c_6)
  refine tt_gI (pc := 25) rw_191_25 (g_o hG9 rfl) (v := (M.2.1 77 29)) c_11 (to_in (pc := 28) rw_191_28 rfl (s_ias (pc := 29) rw_191_29 hG9 rfl (n := 150) rfl (A := (M.2.1 77 29).toInt) rfl (by omega) (by omega) (fun M13 W12 => ?_)))
  have hG14 := g_wf hG9 W12 rfl rfl (by decide)
  have F15 := FR.w F10 W12 (show 92 = 77 ∧ ((M.2.1 77 29).toInt).toNat = 29 ∨ 90 ≤ 92 ∧ 92 ≤ 93 by omega)
  refine to_an (pc := 30) rw_191_30 rfl (s_gR (pc := 31) rw_191_31 hG14 rfl (v := 93) rfl (to_an (pc := 34) rw_191_34 rfl ?_))
  have c_16 : M13.2.1 77 29 = (M.2.1 77 29) := (W_n W12 (fun z => absurd z.1 (by decide)) c_11)
  refine tt_gI (pc := 35) rw_191_35 (g_o hG14 rfl) (v := (M.2.1 77 29)) c_16 (to_i (pc := 38) rw_191_38 rfl (s_ias (pc := 40) rw_191_40 hG14 rfl (n := 150) rfl (A := (M.2.1 77 29).toInt) rfl (by omega) (by omega) (fun M18 W17 => ?_)))
  have hG19 := g_wf hG14 W17 rfl rfl (by decide)
  have F20 := FR.w F15 W17 (show 93 = 77 ∧ ((M.2.1 77 29).toInt).toNat = 29 ∨ 90 ≤ 93 ∧ 93 ≤ 93 by omega)
  refine to_an (pc := 41) rw_191_41 rfl (to_dupr (pc := 42) rw_191_42 ?_)
  have c_21 : M18.2.1 77 29 = (M.2.1 77 29) := (W_n W17 (fun z => absurd z.1 (by decide)) c_16)
  refine tt_gI (pc := 43) rw_191_43 (g_o hG19 rfl) (v := (M.2.1 77 29)) c_21 (to_c (pc := 46) rw_191_46 (x := (1 : Int32)) rfl rfl (s_add (pc := 47) rw_191_47 (A := (M.2.1 77 29).toInt) (B := 1) rfl rfl (by omega) (fun v22 e23 => s_pI (pc := 48) rw_191_48 hG19 rfl (fun M25 W24 => ?_))))
  have hG26 := g_w hG19 W24 (A := v22.toInt) rfl (lo := 0) (hi := 150) rfl rfl (by omega) (by decide)
  have F27 := FR.w F20 W24 (show 77 = 77 ∧ 29 = 29 ∨ 90 ≤ 77 ∧ 77 ≤ 93 by decide)
  have j_28 := NJ_k (M1 := M25) (n := ((M.2.1 77 29).toInt).toNat) q11 (by omega) (by have z := congrArg Int32.toInt (W_e W24); omega) (fun a i z => (W_n W24 (by /-r77,29-/ omega) (W_n W17 (by /-r93-/ omega) (W_n W12 (by /-r92-/ omega) (W_n W7 (by /-r91-/ omega) (W_n W2 (by /-r90-/ omega) rfl)))))) (W_n W24 (by omega) (W_n W17 (by omega) (W_n W12 (by omega) (W_n W7 (by omega) (W_e W2))))) (W_n W24 (by omega) (W_n W17 (by omega) (W_n W12 (by omega) (W_e W7)))) (W_n W24 (by omega) (W_n W17 (by omega) (W_e W12))) (W_n W24 (by omega) (W_e W17)) q6 q7 q8 q9 q10
  refine to_an (pc := 51) rw_191_51 rfl ?_
  have c_29 : M25.2.1 77 29 = v22 := (W_e W24)
  refine tt_gI (pc := 52) rw_191_52 (g_o hG26 rfl) (v := v22) c_29 (to_c (pc := 55) rw_191_55 (x := (1 : Int32)) rfl rfl (s_sub (pc := 56) rw_191_56 (A := v22.toInt) (B := 1) rfl rfl (by omega) (fun v30 e31 => to_r0 (pc := 57) rw_191_57 ?_)))
  have t_32 : (M25.2.1 77 29).toInt = v22.toInt := congrArg Int32.toInt c_29
  exact h v30 M25 hG26 F27 (by omega) (by omega) j_28
set_option maxRecDepth 4000 in
set_option maxHeartbeats 0 in
theorem C_192 {X : mm_X} {d : Nat} {M : mm_M} {Q : Option Value → mm_M → Prop} {n : Int32} {w : Int32} (hX : g_X X) (hd : 3 ≤ d) (hG : g_G M) (q1 : NJ M) (h : ∀ (r : Int64) (M1 : mm_M), g_G M1 → FR md_k2 M M1 → Q (some (.long r)) M1) : mm_T X d 191 0 [.ref 77, .int n, .int w] [] M Q := by
  have F0 : FR md_k2 M M := FR.rf
  refine to_an (pc := 0) rw_192_0 rfl (to_c (pc := 1) rw_192_1 (x := (0 : Int32)) rfl rfl (s_pI (pc := 2) rw_192_2 hG rfl (fun M2 W1 => ?_)))
  have hG3 := g_wf hG W1 rfl rfl (by decide)
  have F4 := FR.w F0 W1 (show 77 = 77 ∧ 2 = 2 ∨ 94 ≤ 77 ∧ 77 ≤ 98 by decide)
  refine to_an (pc := 5) rw_192_5 rfl (to_in (pc := 6) rw_192_6 rfl (s_v (pc := 7) rw_192_7 (dp0 hd (by decide)) (ls0 := [.ref 77, .int n]) rfl (Nat.le_of_ble_eq_true rfl) (Nat.le_of_ble_eq_true rfl) rfl (to_rc rfl rfl rfl (g_o hG3 rfl)) rfl (to_in (pc := 0) rw_186_0 rfl (b_ilt (pc := 1) rw_186_1 (A := n.toInt) rfl (fun h5 => ?_) (fun h5 => ?_)))))
  · refine to_c (pc := 16) rw_186_16 (x := (0 : Int32)) rfl rfl (s_r1 (pc := 17) rw_186_17 (A := 0) rfl (by decide) (b_ieq_t (pc := 10) rw_192_10 (A := 0) rfl (by decide) (s_cl (pc := 21) rw_192_21 rfl (fun l6 => to_rl (pc := 22) rw_192_22 ?_))))
    exact h l6 M2 hG3 F4 
  · refine to_in (pc := 4) rw_186_4 rfl (to_an (pc := 5) rw_186_5 rfl ?_)
    have c_7 : M2.2.1 77 29 = (M.2.1 77 29) := (W_n W1 (by decide) rfl)
    have b_8 := g_b hG (a := 77) (i := 29) (lo := 0) (hi := 150) rfl rfl
    refine tt_gI (pc := 6) rw_186_6 (g_o hG3 rfl) (v := (M.2.1 77 29)) c_7 (b_cgt (pc := 9) rw_186_9 (A := n.toInt) (B := (M.2.1 77 29).toInt) rfl rfl (fun h9 => ?_) (fun h9 => ?_))
    · refine to_c (pc := 16) rw_186_16 (x := (0 : Int32)) rfl rfl (s_r1 (pc := 17) rw_186_17 (A := 0) rfl (by decide) (b_ieq_t (pc := 10) rw_192_10 (A := 0) rfl (by decide) (s_cl (pc := 21) rw_192_21 rfl (fun l10 => to_rl (pc := 22) rw_192_22 ?_))))
      exact h l10 M2 hG3 F4 
    · refine to_c (pc := 12) rw_186_12 (x := (1 : Int32)) rfl rfl (to_go (pc := 13) rw_186_13 (s_r1 (pc := 17) rw_186_17 (A := 1) rfl (by decide) (b_ieq_f (pc := 10) rw_192_10 (A := 1) rfl (by decide) (to_an (pc := 13) rw_192_13 rfl (to_in (pc := 14) rw_192_14 rfl (s_v (pc := 15) rw_192_15 (dp0 hd (by decide)) (ls0 := [.ref 77, .int w]) rfl (Nat.le_of_ble_eq_true rfl) (Nat.le_of_ble_eq_true rfl) rfl (to_rc rfl rfl rfl (g_o hG3 rfl)) rfl (to_in (pc := 0) rw_180_0 rfl (b_ilt (pc := 1) rw_180_1 (A := w.toInt) rfl (fun h11 => ?_) (fun h11 => ?_)))))))))
      · refine to_c (pc := 16) rw_180_16 (x := (0 : Int32)) rfl rfl (s_r1 (pc := 17) rw_180_17 (A := 0) rfl (by decide) (b_ine_f (pc := 18) rw_192_18 (A := 0) rfl (by decide) (s_cl (pc := 21) rw_192_21 rfl (fun l12 => to_rl (pc := 22) rw_192_22 ?_))))
        exact h l12 M2 hG3 F4 
      · refine to_in (pc := 4) rw_180_4 rfl (to_an (pc := 5) rw_180_5 rfl ?_)
        have c_13 : M2.2.1 77 13 = (M.2.1 77 13) := (W_n W1 (by decide) rfl)
        have b_14 := g_b hG (a := 77) (i := 13) (lo := 0) (hi := 12) rfl rfl
        refine tt_gI (pc := 6) rw_180_6 (g_o hG3 rfl) (v := (M.2.1 77 13)) c_13 (b_cge (pc := 9) rw_180_9 (A := w.toInt) (B := (M.2.1 77 13).toInt) rfl rfl (fun h15 => ?_) (fun h15 => ?_))
        · refine to_c (pc := 16) rw_180_16 (x := (0 : Int32)) rfl rfl (s_r1 (pc := 17) rw_180_17 (A := 0) rfl (by decide) (b_ine_f (pc := 18) rw_192_18 (A := 0) rfl (by decide) (s_cl (pc := 21) rw_192_21 rfl (fun l16 => to_rl (pc := 22) rw_192_22 ?_))))
          exact h l16 M2 hG3 F4 
        · refine to_c (pc := 12) rw_180_12 (x := (1 : Int32)) rfl rfl (to_go (pc := 13) rw_180_13 (s_r1 (pc := 17) rw_180_17 (A := 1) rfl (by decide) (b_ine_t (pc := 18) rw_192_18 (A := 1) rfl (by decide) (to_an (pc := 23) rw_192_23 rfl (to_in (pc := 24) rw_192_24 rfl (s_v (pc := 25) rw_192_25 (dp0 hd (by decide)) (ls0 := [.ref 77, .int n, .null, .null]) rfl (Nat.le_of_ble_eq_true rfl) (Nat.le_of_ble_eq_true rfl) rfl (to_rc rfl rfl rfl (g_o hG3 rfl)) rfl ?_))))))
          have t_17 : (M2.2.1 77 29).toInt = (M.2.1 77 29).toInt := congrArg Int32.toInt c_7
          have j_18 := (NJ_f (fun a i z => W_n W1 (by /-r77,2-/ omega) rfl) q1)
          refine C_189 hX (dp1 hd (by decide)) hG3 (by omega) (by omega) (by omega) j_18 (n := n) (fun M21 hG20 F19 => ?_)
          have F22 := FR.c F4 F19 tg_263
          refine to_an (pc := 28) rw_192_28 rfl (s_gR (pc := 29) rw_192_29 hG20 rfl (v := 95) rfl (to_in (pc := 32) rw_192_32 rfl (s_lal (pc := 33) rw_192_33 hG20 rfl (n := 12) rfl (A := w.toInt) rfl (by omega) (by omega) (fun l23 => to_rl (pc := 34) rw_192_34 ?_))))
          exact h l23 M21 hG20 F22 
set_option maxRecDepth 4000 in
set_option maxHeartbeats 0 in
theorem C_194 {X : mm_X} {d : Nat} {M : mm_M} {Q : Option Value → mm_M → Prop} {c : Int32} {f : Int32} {v : Int32} (hX : g_X X) (hd : 3 ≤ d) (hG : g_G M) (q1 : NJ M) (q2 : FA M) (h : ∀ (r : Int32) (M1 : mm_M), g_G M1 → FR md_t2 M M1 → NJ M1 → Q (some (.int r)) M1) : mm_T X d 193 0 [.ref 77, .int c, .int f, .int v] [] M Q := by
  have F0 : FR md_t2 M M := FR.rf
  refine to_an (pc := 0) rw_194_0 rfl (to_c (pc := 1) rw_194_1 (x := (0 : Int32)) rfl rfl (s_pI (pc := 2) rw_194_2 hG rfl (fun M2 W1 => ?_)))
  have hG3 := g_wf hG W1 rfl rfl (by decide)
  have F4 := FR.w F0 W1 (show 77 = 77 ∧ (2 = 2 ∨ 2 = 29) ∨ 90 ≤ 77 ∧ 77 ≤ 93 by decide)
  refine to_an (pc := 5) rw_194_5 rfl ?_
  have c_5 : M2.2.1 77 29 = (M.2.1 77 29) := (W_n W1 (by decide) rfl)
  have b_6 := g_b hG (a := 77) (i := 29) (lo := 0) (hi := 150) rfl rfl
  refine tt_gI (pc := 6) rw_194_6 (g_o hG3 rfl) (v := (M.2.1 77 29)) c_5 (to_c (pc := 9) rw_194_9 (x := (150 : Int32)) rfl rfl (b_ceq (pc := 12) rw_194_12 (A := (M.2.1 77 29).toInt) (B := 150) rfl rfl (fun h7 => ?_) (fun h7 => ?_)))
  · refine to_c (pc := 32) rw_194_32 (x := (-1 : Int32)) rfl rfl (to_go (pc := 33) rw_194_33 (to_r0 (pc := 44) rw_194_44 ?_))
    have k_8 : (-1 : Int32).toInt = -1 := rfl
    have j_9 := (NJ_f (fun a i z => W_n W1 (by /-r77,2-/ omega) rfl) q1)
    exact h (-1 : Int32) M2 hG3 F4 j_9
  · refine to_an (pc := 15) rw_194_15 rfl (to_in (pc := 16) rw_194_16 rfl (s_v (pc := 17) rw_194_17 (dp0 hd (by decide)) (ls0 := [.ref 77, .int c]) rfl (Nat.le_of_ble_eq_true rfl) (Nat.le_of_ble_eq_true rfl) rfl (to_rc rfl rfl rfl (g_o hG3 rfl)) rfl (to_in (pc := 0) rw_187_0 rfl (b_ilt (pc := 1) rw_187_1 (A := c.toInt) rfl (fun h10 => ?_) (fun h10 => ?_)))))
    · refine to_c (pc := 16) rw_187_16 (x := (0 : Int32)) rfl rfl (s_r1 (pc := 17) rw_187_17 (A := 0) rfl (by decide) (b_ieq_t (pc := 20) rw_194_20 (A := 0) rfl (by decide) (to_c (pc := 32) rw_194_32 (x := (-1 : Int32)) rfl rfl (to_go (pc := 33) rw_194_33 (to_r0 (pc := 44) rw_194_44 ?_)))))
      have k_11 : (-1 : Int32).toInt = -1 := rfl
      have j_12 := (NJ_f (fun a i z => W_n W1 (by /-r77,2-/ omega) rfl) q1)
      exact h (-1 : Int32) M2 hG3 F4 j_12
    · refine to_in (pc := 4) rw_187_4 rfl (to_an (pc := 5) rw_187_5 rfl ?_)
      have c_13 : M2.2.1 77 28 = (M.2.1 77 28) := (W_n W1 (by decide) rfl)
      have b_14 := g_b hG (a := 77) (i := 28) (lo := 0) (hi := 30) rfl rfl
      refine tt_gI (pc := 6) rw_187_6 (g_o hG3 rfl) (v := (M.2.1 77 28)) c_13 (b_cge (pc := 9) rw_187_9 (A := c.toInt) (B := (M.2.1 77 28).toInt) rfl rfl (fun h15 => ?_) (fun h15 => ?_))
      · refine to_c (pc := 16) rw_187_16 (x := (0 : Int32)) rfl rfl (s_r1 (pc := 17) rw_187_17 (A := 0) rfl (by decide) (b_ieq_t (pc := 20) rw_194_20 (A := 0) rfl (by decide) (to_c (pc := 32) rw_194_32 (x := (-1 : Int32)) rfl rfl (to_go (pc := 33) rw_194_33 (to_r0 (pc := 44) rw_194_44 ?_)))))
        have k_16 : (-1 : Int32).toInt = -1 := rfl
        have j_17 := (NJ_f (fun a i z => W_n W1 (by /-r77,2-/ omega) rfl) q1)
        exact h (-1 : Int32) M2 hG3 F4 j_17
      · refine to_c (pc := 12) rw_187_12 (x := (1 : Int32)) rfl rfl (to_go (pc := 13) rw_187_13 (s_r1 (pc := 17) rw_187_17 (A := 1) rfl (by decide) (b_ieq_f (pc := 20) rw_194_20 (A := 1) rfl (by decide) (to_an (pc := 23) rw_194_23 rfl (to_in (pc := 24) rw_194_24 rfl (to_in (pc := 25) rw_194_25 rfl (s_v (pc := 26) rw_194_26 (dp0 hd (by decide)) (ls0 := [.ref 77, .int f, .int v]) rfl (Nat.le_of_ble_eq_true rfl) (Nat.le_of_ble_eq_true rfl) rfl (to_rc rfl rfl rfl (g_o hG3 rfl)) rfl (to_an (pc := 0) rw_184_0 rfl (to_in (pc := 1) rw_184_1 rfl (s_v (pc := 2) rw_184_2 (dp1 hd (by decide)) (ls0 := [.ref 77, .int f]) rfl (Nat.le_of_ble_eq_true rfl) (Nat.le_of_ble_eq_true rfl) rfl (to_rc rfl rfl rfl (g_o hG3 rfl)) rfl (to_an (pc := 0) rw_179_0 rfl ?_)))))))))))
        refine to_in (pc := 1) rw_179_1 rfl (s_v (pc := 2) rw_179_2 (dp2 hd (by decide)) (ls0 := [.ref 77, .int f]) rfl (Nat.le_of_ble_eq_true rfl) (Nat.le_of_ble_eq_true rfl) rfl (to_rc rfl rfl rfl (g_o hG3 rfl)) rfl (to_in (pc := 0) rw_178_0 rfl (b_ilt (pc := 1) rw_178_1 (A := f.toInt) rfl (fun h18 => ?_) (fun h18 => ?_))))
        · refine to_c (pc := 16) rw_178_16 (x := (0 : Int32)) rfl rfl (s_r1 (pc := 17) rw_178_17 (A := 0) rfl (by decide) (b_ieq_t (pc := 5) rw_179_5 (A := 0) rfl (by decide) (to_c (pc := 22) rw_179_22 (x := (0 : Int32)) rfl rfl (s_r1 (pc := 23) rw_179_23 (A := 0) rfl (by decide) (b_ieq_t (pc := 5) rw_184_5 (A := 0) rfl (by decide) (to_c (pc := 26) rw_184_26 (x := (0 : Int32)) rfl rfl (s_r1 (pc := 27) rw_184_27 (A := 0) rfl (by decide) (b_ine_f (pc := 29) rw_194_29 (A := 0) rfl (by decide) (to_c (pc := 32) rw_194_32 (x := (-1 : Int32)) rfl rfl (to_go (pc := 33) rw_194_33 (to_r0 (pc := 44) rw_194_44 ?_)))))))))))
          have k_19 : (-1 : Int32).toInt = -1 := rfl
          have j_20 := (NJ_f (fun a i z => W_n W1 (by /-r77,2-/ omega) rfl) q1)
          exact h (-1 : Int32) M2 hG3 F4 j_20
        · refine to_in (pc := 4) rw_178_4 rfl (to_an (pc := 5) rw_178_5 rfl ?_)
          have c_21 : M2.2.1 77 12 = (M.2.1 77 12) := (W_n W1 (by decide) rfl)
          have b_22 := g_b hG (a := 77) (i := 12) (lo := 0) (hi := 8) rfl rfl
          refine tt_gI (pc := 6) rw_178_6 (g_o hG3 rfl) (v := (M.2.1 77 12)) c_21 (b_cge (pc := 9) rw_178_9 (A := f.toInt) (B := (M.2.1 77 12).toInt) rfl rfl (fun h23 => ?_) (fun h23 => ?_))
          · refine to_c (pc := 16) rw_178_16 (x := (0 : Int32)) rfl rfl (s_r1 (pc := 17) rw_178_17 (A := 0) rfl (by decide) (b_ieq_t (pc := 5) rw_179_5 (A := 0) rfl (by decide) (to_c (pc := 22) rw_179_22 (x := (0 : Int32)) rfl rfl (s_r1 (pc := 23) rw_179_23 (A := 0) rfl (by decide) (b_ieq_t (pc := 5) rw_184_5 (A := 0) rfl (by decide) (to_c (pc := 26) rw_184_26 (x := (0 : Int32)) rfl rfl (s_r1 (pc := 27) rw_184_27 (A := 0) rfl (by decide) (b_ine_f (pc := 29) rw_194_29 (A := 0) rfl (by decide) (to_c (pc := 32) rw_194_32 (x := (-1 : Int32)) rfl rfl (to_go (pc := 33) rw_194_33 (to_r0 (pc := 44) rw_194_44 ?_)))))))))))
            have k_24 : (-1 : Int32).toInt = -1 := rfl
            have j_25 := (NJ_f (fun a i z => W_n W1 (by /-r77,2-/ omega) rfl) q1)
            exact h (-1 : Int32) M2 hG3 F4 j_25
          · refine to_c (pc := 12) rw_178_12 (x := (1 : Int32)) rfl rfl (to_go (pc := 13) rw_178_13 (s_r1 (pc := 17) rw_178_17 (A := 1) rfl (by decide) (b_ieq_f (pc := 5) rw_179_5 (A := 1) rfl (by decide) (to_an (pc := 8) rw_179_8 rfl (s_gR (pc := 9) rw_179_9 hG3 rfl (v := 81) rfl (to_in (pc := 12) rw_179_12 rfl (s_ial (pc := 13) rw_179_13 hG3 rfl (n := 16) rfl rfl (A := f.toInt) rfl (by omega) (by omega) (lo := 0) (hi := 3) rfl rfl (fun v26 w_27 _ _ => ?_))))))))
            have t_28 := congrArg Int32.toInt w_27
            have j_30 := (FA_f (fun a i z => W_n W1 (tg_94 a i z) rfl) q2)
            have j_29 := FA_u j_30 (f.toInt).toNat
            refine to_c (pc := 14) rw_179_14 (x := (3 : Int32)) rfl rfl (b_ceq (pc := 15) rw_179_15 (A := v26.toInt) (B := 3) rfl rfl (fun h31 => ?_) (fun h31 => ?_))
            · refine to_c (pc := 22) rw_179_22 (x := (0 : Int32)) rfl rfl (s_r1 (pc := 23) rw_179_23 (A := 0) rfl (by decide) (b_ieq_t (pc := 5) rw_184_5 (A := 0) rfl (by decide) (to_c (pc := 26) rw_184_26 (x := (0 : Int32)) rfl rfl (s_r1 (pc := 27) rw_184_27 (A := 0) rfl (by decide) (b_ine_f (pc := 29) rw_194_29 (A := 0) rfl (by decide) (to_c (pc := 32) rw_194_32 (x := (-1 : Int32)) rfl rfl (to_go (pc := 33) rw_194_33 (to_r0 (pc := 44) rw_194_44 ?_))))))))
              have k_32 : (-1 : Int32).toInt = -1 := rfl
              have j_33 := (NJ_f (fun a i z => W_n W1 (by /-r77,2-/ omega) rfl) q1)
              exact h (-1 : Int32) M2 hG3 F4 j_33
            · refine to_c (pc := 18) rw_179_18 (x := (1 : Int32)) rfl rfl (to_go (pc := 19) rw_179_19 (s_r1 (pc := 23) rw_179_23 (A := 1) rfl (by decide) (b_ieq_f (pc := 5) rw_184_5 (A := 1) rfl (by decide) (to_in (pc := 8) rw_184_8 rfl (b_ilt (pc := 9) rw_184_9 (A := v.toInt) rfl (fun h34 => ?_) (fun h34 => ?_))))))
              · refine to_c (pc := 26) rw_184_26 (x := (0 : Int32)) rfl rfl (s_r1 (pc := 27) rw_184_27 (A := 0) rfl (by decide) (b_ine_f (pc := 29) rw_194_29 (A := 0) rfl (by decide) (to_c (pc := 32) rw_194_32 (x := (-1 : Int32)) rfl rfl (to_go (pc := 33) rw_194_33 (to_r0 (pc := 44) rw_194_44 ?_)))))
                have k_35 : (-1 : Int32).toInt = -1 := rfl
                have j_36 := (NJ_f (fun a i z => W_n W1 (by /-r77,2-/ omega) rfl) q1)
                exact h (-1 : Int32) M2 hG3 F4 j_36
              · refine to_in (pc := 12) rw_184_12 rfl (to_an (pc := 13) rw_184_13 rfl (s_gR (pc := 14) rw_184_14 hG3 rfl (v := 84) rfl (to_in (pc := 17) rw_184_17 rfl (s_ial (pc := 18) rw_184_18 hG3 rfl (n := 16) rfl rfl (A := f.toInt) rfl (by omega) (by omega) (lo := 0) (hi := 24) rfl rfl (fun v37 w_38 _ _ => ?_)))))
                have t_39 := congrArg Int32.toInt w_38
                refine b_cge (pc := 19) rw_184_19 (A := v.toInt) (B := v37.toInt) rfl rfl (fun h40 => ?_) (fun h40 => ?_)
                · refine to_c (pc := 26) rw_184_26 (x := (0 : Int32)) rfl rfl (s_r1 (pc := 27) rw_184_27 (A := 0) rfl (by decide) (b_ine_f (pc := 29) rw_194_29 (A := 0) rfl (by decide) (to_c (pc := 32) rw_194_32 (x := (-1 : Int32)) rfl rfl (to_go (pc := 33) rw_194_33 (to_r0 (pc := 44) rw_194_44 ?_)))))
                  have k_41 : (-1 : Int32).toInt = -1 := rfl
                  have j_42 := (NJ_f (fun a i z => W_n W1 (by /-r77,2-/ omega) rfl) q1)
                  exact h (-1 : Int32) M2 hG3 F4 j_42
                · refine to_c (pc := 22) rw_184_22 (x := (1 : Int32)) rfl rfl (to_go (pc := 23) rw_184_23 (s_r1 (pc := 27) rw_184_27 (A := 1) rfl (by decide) (b_ine_t (pc := 29) rw_194_29 (A := 1) rfl (by decide) (to_an (pc := 36) rw_194_36 rfl (to_c (pc := 37) rw_194_37 (x := (0 : Int32)) rfl rfl (to_in (pc := 38) rw_194_38 rfl (to_in (pc := 39) rw_194_39 rfl (to_in (pc := 40) rw_194_40 rfl (s_v (pc := 41) rw_194_41 (dp0 hd (by decide)) (ls0 := [.ref 77, .int (0 : Int32), .int c, .int f, .int v]) rfl (Nat.le_of_ble_eq_true rfl) (Nat.le_of_ble_eq_true rfl) rfl (to_rc rfl rfl rfl (g_o hG3 rfl)) rfl ?_)))))))))
                  have k_43 : (0 : Int32).toInt = 0 := rfl
                  have t_44 : (M2.2.1 77 29).toInt = (M.2.1 77 29).toInt := congrArg Int32.toInt c_5
                  have j_45 := (NJ_f (fun a i z => W_n W1 (by /-r77,2-/ omega) rfl) q1)
                  refine C_191 hX (dp1 hd (by decide)) hG3 (by omega) (by omega) (by omega) (by omega) (by omega) (by omega) (by omega) (by omega) (by omega) (by omega) j_45 (w := (0 : Int32)) (o := c) (m := f) (v := v) (fun r46 M52 hG48 F47 p_49 p_50 p_51 => ?_)
                  have F53 := FR.c F4 F47 tg_105
                  have b_54 := g_b hG48 (a := 77) (i := 29) (lo := 0) (hi := 150) rfl rfl
                  refine to_r0 (pc := 44) rw_194_44 ?_
                  exact h r46 M52 hG48 F53 p_51
set_option maxRecDepth 4000 in
set_option maxHeartbeats 0 in
theorem C_195 {X : mm_X} {d : Nat} {M : mm_M} {Q : Option Value → mm_M → Prop} {c : Int32} {w : Int32} (hX : g_X X) (hd : 1 ≤ d) (hG : g_G M) (q1 : NJ M) (h : ∀ (r : Int32) (M1 : mm_M), g_G M1 → FR md_t2 M M1 → NJ M1 → Q (some (.int r)) M1) : mm_T X d 194 0 [.ref 77, .int c, .int w] [] M Q := by
  have F0 : FR md_t2 M M := FR.rf
  refine to_an (pc := 0) rw_195_0 rfl (to_c (pc := 1) rw_195_1 (x := (0 : Int32)) rfl rfl (s_pI (pc := 2) rw_195_2 hG rfl (fun M2 W1 => ?_)))
  have hG3 := g_wf hG W1 rfl rfl (by decide)
  have F4 := FR.w F0 W1 (show 77 = 77 ∧ (2 = 2 ∨ 2 = 29) ∨ 90 ≤ 77 ∧ 77 ≤ 93 by decide)
  refine to_an (pc := 5) rw_195_5 rfl ?_
  have c_5 : M2.2.1 77 29 = (M.2.1 77 29) := (W_n W1 (by decide) rfl)
  have b_6 := g_b hG (a := 77) (i := 29) (lo := 0) (hi := 150) rfl rfl
  refine tt_gI (pc := 6) rw_195_6 (g_o hG3 rfl) (v := (M.2.1 77 29)) c_5 (to_c (pc := 9) rw_195_9 (x := (150 : Int32)) rfl rfl (b_ceq (pc := 12) rw_195_12 (A := (M.2.1 77 29).toInt) (B := 150) rfl rfl (fun h7 => ?_) (fun h7 => ?_)))
  · refine to_c (pc := 31) rw_195_31 (x := (-1 : Int32)) rfl rfl (to_go (pc := 32) rw_195_32 (to_r0 (pc := 43) rw_195_43 ?_))
    have k_8 : (-1 : Int32).toInt = -1 := rfl
    have j_9 := (NJ_f (fun a i z => W_n W1 (by /-r77,2-/ omega) rfl) q1)
    exact h (-1 : Int32) M2 hG3 F4 j_9
  · refine to_an (pc := 15) rw_195_15 rfl (to_in (pc := 16) rw_195_16 rfl (s_v (pc := 17) rw_195_17 (dp0 hd (by decide)) (ls0 := [.ref 77, .int c]) rfl (Nat.le_of_ble_eq_true rfl) (Nat.le_of_ble_eq_true rfl) rfl (to_rc rfl rfl rfl (g_o hG3 rfl)) rfl (to_in (pc := 0) rw_187_0 rfl (b_ilt (pc := 1) rw_187_1 (A := c.toInt) rfl (fun h10 => ?_) (fun h10 => ?_)))))
    · refine to_c (pc := 16) rw_187_16 (x := (0 : Int32)) rfl rfl (s_r1 (pc := 17) rw_187_17 (A := 0) rfl (by decide) (b_ieq_t (pc := 20) rw_195_20 (A := 0) rfl (by decide) (to_c (pc := 31) rw_195_31 (x := (-1 : Int32)) rfl rfl (to_go (pc := 32) rw_195_32 (to_r0 (pc := 43) rw_195_43 ?_)))))
      have k_11 : (-1 : Int32).toInt = -1 := rfl
      have j_12 := (NJ_f (fun a i z => W_n W1 (by /-r77,2-/ omega) rfl) q1)
      exact h (-1 : Int32) M2 hG3 F4 j_12
    · refine to_in (pc := 4) rw_187_4 rfl (to_an (pc := 5) rw_187_5 rfl ?_)
      have c_13 : M2.2.1 77 28 = (M.2.1 77 28) := (W_n W1 (by decide) rfl)
      have b_14 := g_b hG (a := 77) (i := 28) (lo := 0) (hi := 30) rfl rfl
      refine tt_gI (pc := 6) rw_187_6 (g_o hG3 rfl) (v := (M.2.1 77 28)) c_13 (b_cge (pc := 9) rw_187_9 (A := c.toInt) (B := (M.2.1 77 28).toInt) rfl rfl (fun h15 => ?_) (fun h15 => ?_))
      · refine to_c (pc := 16) rw_187_16 (x := (0 : Int32)) rfl rfl (s_r1 (pc := 17) rw_187_17 (A := 0) rfl (by decide) (b_ieq_t (pc := 20) rw_195_20 (A := 0) rfl (by decide) (to_c (pc := 31) rw_195_31 (x := (-1 : Int32)) rfl rfl (to_go (pc := 32) rw_195_32 (to_r0 (pc := 43) rw_195_43 ?_)))))
        have k_16 : (-1 : Int32).toInt = -1 := rfl
        have j_17 := (NJ_f (fun a i z => W_n W1 (by /-r77,2-/ omega) rfl) q1)
        exact h (-1 : Int32) M2 hG3 F4 j_17
      · refine to_c (pc := 12) rw_187_12 (x := (1 : Int32)) rfl rfl (to_go (pc := 13) rw_187_13 (s_r1 (pc := 17) rw_187_17 (A := 1) rfl (by decide) (b_ieq_f (pc := 20) rw_195_20 (A := 1) rfl (by decide) (to_an (pc := 23) rw_195_23 rfl (to_in (pc := 24) rw_195_24 rfl (s_v (pc := 25) rw_195_25 (dp0 hd (by decide)) (ls0 := [.ref 77, .int w]) rfl (Nat.le_of_ble_eq_true rfl) (Nat.le_of_ble_eq_true rfl) rfl (to_rc rfl rfl rfl (g_o hG3 rfl)) rfl (to_in (pc := 0) rw_180_0 rfl (b_ilt (pc := 1) rw_180_1 (A := w.toInt) rfl (fun h18 => ?_) (fun h18 => ?_)))))))))
        · refine to_c (pc := 16) rw_180_16 (x := (0 : Int32)) rfl rfl (s_r1 (pc := 17) rw_180_17 (A := 0) rfl (by decide) (b_ine_f (pc := 28) rw_195_28 (A := 0) rfl (by decide) (to_c (pc := 31) rw_195_31 (x := (-1 : Int32)) rfl rfl (to_go (pc := 32) rw_195_32 (to_r0 (pc := 43) rw_195_43 ?_)))))
          have k_19 : (-1 : Int32).toInt = -1 := rfl
          have j_20 := (NJ_f (fun a i z => W_n W1 (by /-r77,2-/ omega) rfl) q1)
          exact h (-1 : Int32) M2 hG3 F4 j_20
        · refine to_in (pc := 4) rw_180_4 rfl (to_an (pc := 5) rw_180_5 rfl ?_)
          have c_21 : M2.2.1 77 13 = (M.2.1 77 13) := (W_n W1 (by decide) rfl)
          have b_22 := g_b hG (a := 77) (i := 13) (lo := 0) (hi := 12) rfl rfl
          refine tt_gI (pc := 6) rw_180_6 (g_o hG3 rfl) (v := (M.2.1 77 13)) c_21 (b_cge (pc := 9) rw_180_9 (A := w.toInt) (B := (M.2.1 77 13).toInt) rfl rfl (fun h23 => ?_) (fun h23 => ?_))
          · refine to_c (pc := 16) rw_180_16 (x := (0 : Int32)) rfl rfl (s_r1 (pc := 17) rw_180_17 (A := 0) rfl (by decide) (b_ine_f (pc := 28) rw_195_28 (A := 0) rfl (by decide) (to_c (pc := 31) rw_195_31 (x := (-1 : Int32)) rfl rfl (to_go (pc := 32) rw_195_32 (to_r0 (pc := 43) rw_195_43 ?_)))))
            have k_24 : (-1 : Int32).toInt = -1 := rfl
            have j_25 := (NJ_f (fun a i z => W_n W1 (by /-r77,2-/ omega) rfl) q1)
            exact h (-1 : Int32) M2 hG3 F4 j_25
          · refine to_c (pc := 12) rw_180_12 (x := (1 : Int32)) rfl rfl (to_go (pc := 13) rw_180_13 (s_r1 (pc := 17) rw_180_17 (A := 1) rfl (by decide) (b_ine_t (pc := 28) rw_195_28 (A := 1) rfl (by decide) (to_an (pc := 35) rw_195_35 rfl (to_c (pc := 36) rw_195_36 (x := (1 : Int32)) rfl rfl (to_in (pc := 37) rw_195_37 rfl (to_in (pc := 38) rw_195_38 rfl (to_c (pc := 39) rw_195_39 (x := (0 : Int32)) rfl rfl (s_v (pc := 40) rw_195_40 (dp0 hd (by decide)) (ls0 := [.ref 77, .int (1 : Int32), .int c, .int w, .int (0 : Int32)]) rfl (Nat.le_of_ble_eq_true rfl) (Nat.le_of_ble_eq_true rfl) rfl (to_rc rfl rfl rfl (g_o hG3 rfl)) rfl ?_)))))))))
            have k_26 : (1 : Int32).toInt = 1 := rfl
            have k_27 : (0 : Int32).toInt = 0 := rfl
            have t_28 : (M2.2.1 77 29).toInt = (M.2.1 77 29).toInt := congrArg Int32.toInt c_5
            have j_29 := (NJ_f (fun a i z => W_n W1 (by /-r77,2-/ omega) rfl) q1)
            refine C_191 hX (dp1 hd (by decide)) hG3 (by omega) (by omega) (by omega) (by omega) (by omega) (by omega) (by omega) (by omega) (by omega) (by omega) j_29 (w := (1 : Int32)) (o := c) (m := w) (v := (0 : Int32)) (fun r30 M36 hG32 F31 p_33 p_34 p_35 => ?_)
            have F37 := FR.c F4 F31 tg_105
            have b_38 := g_b hG32 (a := 77) (i := 29) (lo := 0) (hi := 150) rfl rfl
            refine to_r0 (pc := 43) rw_195_43 ?_
            exact h r30 M36 hG32 F37 p_35
set_option maxRecDepth 4000 in
set_option maxHeartbeats 0 in
theorem C_196 {X : mm_X} {d : Nat} {M : mm_M} {Q : Option Value → mm_M → Prop} {c : Int32} {e : Int32} {m : Int32} (hX : g_X X) (hd : 1 ≤ d) (hG : g_G M) (q1 : 0 ≤ m.toInt) (q2 : m.toInt ≤ 1) (q3 : NJ M) (h : ∀ (r : Int32) (M1 : mm_M), g_G M1 → FR md_t2 M M1 → NJ M1 → Q (some (.int r)) M1) : mm_T X d 195 0 [.ref 77, .int c, .int e, .int m] [] M Q := by
  have F0 : FR md_t2 M M := FR.rf
  refine to_an (pc := 0) rw_196_0 rfl (to_c (pc := 1) rw_196_1 (x := (0 : Int32)) rfl rfl (s_pI (pc := 2) rw_196_2 hG rfl (fun M2 W1 => ?_)))
  have hG3 := g_wf hG W1 rfl rfl (by decide)
  have F4 := FR.w F0 W1 (show 77 = 77 ∧ (2 = 2 ∨ 2 = 29) ∨ 90 ≤ 77 ∧ 77 ≤ 93 by decide)
  refine to_an (pc := 5) rw_196_5 rfl ?_
  have c_5 : M2.2.1 77 29 = (M.2.1 77 29) := (W_n W1 (by decide) rfl)
  have b_6 := g_b hG (a := 77) (i := 29) (lo := 0) (hi := 150) rfl rfl
  refine tt_gI (pc := 6) rw_196_6 (g_o hG3 rfl) (v := (M.2.1 77 29)) c_5 (to_c (pc := 9) rw_196_9 (x := (150 : Int32)) rfl rfl (b_ceq (pc := 12) rw_196_12 (A := (M.2.1 77 29).toInt) (B := 150) rfl rfl (fun h7 => ?_) (fun h7 => ?_)))
  · refine to_c (pc := 35) rw_196_35 (x := (-1 : Int32)) rfl rfl (to_go (pc := 36) rw_196_36 (to_r0 (pc := 55) rw_196_55 ?_))
    have k_8 : (-1 : Int32).toInt = -1 := rfl
    have j_9 := (NJ_f (fun a i z => W_n W1 (by /-r77,2-/ omega) rfl) q3)
    exact h (-1 : Int32) M2 hG3 F4 j_9
  · refine to_an (pc := 15) rw_196_15 rfl (to_in (pc := 16) rw_196_16 rfl (s_v (pc := 17) rw_196_17 (dp0 hd (by decide)) (ls0 := [.ref 77, .int c]) rfl (Nat.le_of_ble_eq_true rfl) (Nat.le_of_ble_eq_true rfl) rfl (to_rc rfl rfl rfl (g_o hG3 rfl)) rfl (to_in (pc := 0) rw_187_0 rfl (b_ilt (pc := 1) rw_187_1 (A := c.toInt) rfl (fun h10 => ?_) (fun h10 => ?_)))))
    · refine to_c (pc := 16) rw_187_16 (x := (0 : Int32)) rfl rfl (s_r1 (pc := 17) rw_187_17 (A := 0) rfl (by decide) (b_ieq_t (pc := 20) rw_196_20 (A := 0) rfl (by decide) (to_c (pc := 35) rw_196_35 (x := (-1 : Int32)) rfl rfl (to_go (pc := 36) rw_196_36 (to_r0 (pc := 55) rw_196_55 ?_)))))
      have k_11 : (-1 : Int32).toInt = -1 := rfl
      have j_12 := (NJ_f (fun a i z => W_n W1 (by /-r77,2-/ omega) rfl) q3)
      exact h (-1 : Int32) M2 hG3 F4 j_12
    · refine to_in (pc := 4) rw_187_4 rfl (to_an (pc := 5) rw_187_5 rfl ?_)
      have c_13 : M2.2.1 77 28 = (M.2.1 77 28) := (W_n W1 (by decide) rfl)
      have b_14 := g_b hG (a := 77) (i := 28) (lo := 0) (hi := 30) rfl rfl
      refine tt_gI (pc := 6) rw_187_6 (g_o hG3 rfl) (v := (M.2.1 77 28)) c_13 (b_cge (pc := 9) rw_187_9 (A := c.toInt) (B := (M.2.1 77 28).toInt) rfl rfl (fun h15 => ?_) (fun h15 => ?_))
      · refine to_c (pc := 16) rw_187_16 (x := (0 : Int32)) rfl rfl (s_r1 (pc := 17) rw_187_17 (A := 0) rfl (by decide) (b_ieq_t (pc := 20) rw_196_20 (A := 0) rfl (by decide) (to_c (pc := 35) rw_196_35 (x := (-1 : Int32)) rfl rfl (to_go (pc := 36) rw_196_36 (to_r0 (pc := 55) rw_196_55 ?_)))))
        have k_16 : (-1 : Int32).toInt = -1 := rfl
        have j_17 := (NJ_f (fun a i z => W_n W1 (by /-r77,2-/ omega) rfl) q3)
        exact h (-1 : Int32) M2 hG3 F4 j_17
      · refine to_c (pc := 12) rw_187_12 (x := (1 : Int32)) rfl rfl (to_go (pc := 13) rw_187_13 (s_r1 (pc := 17) rw_187_17 (A := 1) rfl (by decide) (b_ieq_f (pc := 20) rw_196_20 (A := 1) rfl (by decide) (to_in (pc := 23) rw_196_23 rfl (b_ilt (pc := 24) rw_196_24 (A := e.toInt) rfl (fun h18 => ?_) (fun h18 => ?_))))))
        · refine to_c (pc := 35) rw_196_35 (x := (-1 : Int32)) rfl rfl (to_go (pc := 36) rw_196_36 (to_r0 (pc := 55) rw_196_55 ?_))
          have k_19 : (-1 : Int32).toInt = -1 := rfl
          have j_20 := (NJ_f (fun a i z => W_n W1 (by /-r77,2-/ omega) rfl) q3)
          exact h (-1 : Int32) M2 hG3 F4 j_20
        · refine to_in (pc := 27) rw_196_27 rfl (to_an (pc := 28) rw_196_28 rfl ?_)
          have c_21 : M2.2.1 77 11 = (M.2.1 77 11) := (W_n W1 (by decide) rfl)
          have b_22 := g_b hG (a := 77) (i := 11) (lo := 10) (hi := 60) rfl rfl
          refine tt_gI (pc := 29) rw_196_29 (g_o hG3 rfl) (v := (M.2.1 77 11)) c_21 (b_clt (pc := 32) rw_196_32 (A := e.toInt) (B := (M.2.1 77 11).toInt) rfl rfl (fun h23 => ?_) (fun h23 => ?_))
          · refine to_an (pc := 39) rw_196_39 rfl (to_in (pc := 40) rw_196_40 rfl (b_ieq (pc := 41) rw_196_41 (A := m.toInt) rfl (fun h24 => ?_) (fun h24 => ?_)))
            · refine to_c (pc := 48) rw_196_48 (x := (2 : Int32)) rfl rfl (to_in (pc := 49) rw_196_49 rfl (to_in (pc := 50) rw_196_50 rfl (to_c (pc := 51) rw_196_51 (x := (0 : Int32)) rfl rfl (s_v (pc := 52) rw_196_52 (dp0 hd (by decide)) (ls0 := [.ref 77, .int (2 : Int32), .int c, .int e, .int (0 : Int32)]) rfl (Nat.le_of_ble_eq_true rfl) (Nat.le_of_ble_eq_true rfl) rfl (to_rc rfl rfl rfl (g_o hG3 rfl)) rfl ?_))))
              have k_25 : (2 : Int32).toInt = 2 := rfl
              have k_26 : (0 : Int32).toInt = 0 := rfl
              have t_27 : (M2.2.1 77 29).toInt = (M.2.1 77 29).toInt := congrArg Int32.toInt c_5
              have j_28 := (NJ_f (fun a i z => W_n W1 (by /-r77,2-/ omega) rfl) q3)
              refine C_191 hX (dp1 hd (by decide)) hG3 (by omega) (by omega) (by omega) (by omega) (by omega) (by omega) (by omega) (by omega) (by omega) (by omega) j_28 (w := (2 : Int32)) (o := c) (m := e) (v := (0 : Int32)) (fun r29 M35 hG31 F30 p_32 p_33 p_34 => ?_)
              have F36 := FR.c F4 F30 tg_105
              have b_37 := g_b hG31 (a := 77) (i := 29) (lo := 0) (hi := 150) rfl rfl
              refine to_r0 (pc := 55) rw_196_55 ?_
              exact h r29 M35 hG31 F36 p_34
            · refine to_c (pc := 44) rw_196_44 (x := (3 : Int32)) rfl rfl (to_go (pc := 45) rw_196_45 (to_in (pc := 49) rw_196_49 rfl (to_in (pc := 50) rw_196_50 rfl (to_c (pc := 51) rw_196_51 (x := (0 : Int32)) rfl rfl (s_v (pc := 52) rw_196_52 (dp0 hd (by decide)) (ls0 := [.ref 77, .int (3 : Int32), .int c, .int e, .int (0 : Int32)]) rfl (Nat.le_of_ble_eq_true rfl) (Nat.le_of_ble_eq_true rfl) rfl (to_rc rfl rfl rfl (g_o hG3 rfl)) rfl ?_)))))
              have k_38 : (3 : Int32).toInt = 3 := rfl
              have k_39 : (0 : Int32).toInt = 0 := rfl
              have t_40 : (M2.2.1 77 29).toInt = (M.2.1 77 29).toInt := congrArg Int32.toInt c_5
              have j_41 := (NJ_f (fun a i z => W_n W1 (by /-r77,2-/ omega) rfl) q3)
              refine C_191 hX (dp1 hd (by decide)) hG3 (by omega) (by omega) (by omega) (by omega) (by omega) (by omega) (by omega) (by omega) (by omega) (by omega) j_41 (w := (3 : Int32)) (o := c) (m := e) (v := (0 : Int32)) (fun r42 M48 hG44 F43 p_45 p_46 p_47 => ?_)
              have F49 := FR.c F4 F43 tg_105
              have b_50 := g_b hG44 (a := 77) (i := 29) (lo := 0) (hi := 150) rfl rfl
              refine to_r0 (pc := 55) rw_196_55 ?_
              exact h r42 M48 hG44 F49 p_47
          · refine to_c (pc := 35) rw_196_35 (x := (-1 : Int32)) rfl rfl (to_go (pc := 36) rw_196_36 (to_r0 (pc := 55) rw_196_55 ?_))
            have k_51 : (-1 : Int32).toInt = -1 := rfl
            have j_52 := (NJ_f (fun a i z => W_n W1 (by /-r77,2-/ omega) rfl) q3)
            exact h (-1 : Int32) M2 hG3 F4 j_52
set_option maxRecDepth 4000 in
set_option maxHeartbeats 0 in
theorem C_198 {X : mm_X} {d : Nat} {M : mm_M} {Q : Option Value → mm_M → Prop} {w : Int32} {b : Int32} (hX : g_X X) (hd : 2 ≤ d) (hG : g_G M) (q1 : NJ M) (h : ∀ (r : Int32) (M1 : mm_M), g_G M1 → FR md_t2 M M1 → NJ M1 → Q (some (.int r)) M1) : mm_T X d 197 0 [.ref 77, .int w, .int b] [] M Q := by
  have F0 : FR md_t2 M M := FR.rf
  refine to_an (pc := 0) rw_198_0 rfl (to_c (pc := 1) rw_198_1 (x := (0 : Int32)) rfl rfl (s_pI (pc := 2) rw_198_2 hG rfl (fun M2 W1 => ?_)))
  have hG3 := g_wf hG W1 rfl rfl (by decide)
  have F4 := FR.w F0 W1 (show 77 = 77 ∧ (2 = 2 ∨ 2 = 29) ∨ 90 ≤ 77 ∧ 77 ≤ 93 by decide)
  refine to_an (pc := 5) rw_198_5 rfl ?_
  have c_5 : M2.2.1 77 29 = (M.2.1 77 29) := (W_n W1 (by decide) rfl)
  have b_6 := g_b hG (a := 77) (i := 29) (lo := 0) (hi := 150) rfl rfl
  refine tt_gI (pc := 6) rw_198_6 (g_o hG3 rfl) (v := (M.2.1 77 29)) c_5 (to_c (pc := 9) rw_198_9 (x := (150 : Int32)) rfl rfl (b_ceq (pc := 12) rw_198_12 (A := (M.2.1 77 29).toInt) (B := 150) rfl rfl (fun h7 => ?_) (fun h7 => ?_)))
  · refine to_c (pc := 61) rw_198_61 (x := (-1 : Int32)) rfl rfl (to_r0 (pc := 62) rw_198_62 ?_)
    have k_8 : (-1 : Int32).toInt = -1 := rfl
    have j_9 := (NJ_f (fun a i z => W_n W1 (by /-r77,2-/ omega) rfl) q1)
    exact h (-1 : Int32) M2 hG3 F4 j_9
  · refine to_an (pc := 15) rw_198_15 rfl (to_in (pc := 16) rw_198_16 rfl (s_v (pc := 17) rw_198_17 (dp0 hd (by decide)) (ls0 := [.ref 77, .int w]) rfl (Nat.le_of_ble_eq_true rfl) (Nat.le_of_ble_eq_true rfl) rfl (to_rc rfl rfl rfl (g_o hG3 rfl)) rfl (to_in (pc := 0) rw_180_0 rfl (b_ilt (pc := 1) rw_180_1 (A := w.toInt) rfl (fun h10 => ?_) (fun h10 => ?_)))))
    · refine to_c (pc := 16) rw_180_16 (x := (0 : Int32)) rfl rfl (s_r1 (pc := 17) rw_180_17 (A := 0) rfl (by decide) (b_ieq_t (pc := 20) rw_198_20 (A := 0) rfl (by decide) (to_c (pc := 61) rw_198_61 (x := (-1 : Int32)) rfl rfl (to_r0 (pc := 62) rw_198_62 ?_))))
      have k_11 : (-1 : Int32).toInt = -1 := rfl
      have j_12 := (NJ_f (fun a i z => W_n W1 (by /-r77,2-/ omega) rfl) q1)
      exact h (-1 : Int32) M2 hG3 F4 j_12
    · refine to_in (pc := 4) rw_180_4 rfl (to_an (pc := 5) rw_180_5 rfl ?_)
      have c_13 : M2.2.1 77 13 = (M.2.1 77 13) := (W_n W1 (by decide) rfl)
      have b_14 := g_b hG (a := 77) (i := 13) (lo := 0) (hi := 12) rfl rfl
      refine tt_gI (pc := 6) rw_180_6 (g_o hG3 rfl) (v := (M.2.1 77 13)) c_13 (b_cge (pc := 9) rw_180_9 (A := w.toInt) (B := (M.2.1 77 13).toInt) rfl rfl (fun h15 => ?_) (fun h15 => ?_))
      · refine to_c (pc := 16) rw_180_16 (x := (0 : Int32)) rfl rfl (s_r1 (pc := 17) rw_180_17 (A := 0) rfl (by decide) (b_ieq_t (pc := 20) rw_198_20 (A := 0) rfl (by decide) (to_c (pc := 61) rw_198_61 (x := (-1 : Int32)) rfl rfl (to_r0 (pc := 62) rw_198_62 ?_))))
        have k_16 : (-1 : Int32).toInt = -1 := rfl
        have j_17 := (NJ_f (fun a i z => W_n W1 (by /-r77,2-/ omega) rfl) q1)
        exact h (-1 : Int32) M2 hG3 F4 j_17
      · refine to_c (pc := 12) rw_180_12 (x := (1 : Int32)) rfl rfl (to_go (pc := 13) rw_180_13 (s_r1 (pc := 17) rw_180_17 (A := 1) rfl (by decide) (b_ieq_f (pc := 20) rw_198_20 (A := 1) rfl (by decide) (to_in (pc := 23) rw_198_23 rfl (b_ilt (pc := 24) rw_198_24 (A := b.toInt) rfl (fun h18 => ?_) (fun h18 => ?_))))))
        · refine to_c (pc := 61) rw_198_61 (x := (-1 : Int32)) rfl rfl (to_r0 (pc := 62) rw_198_62 ?_)
          have k_19 : (-1 : Int32).toInt = -1 := rfl
          have j_20 := (NJ_f (fun a i z => W_n W1 (by /-r77,2-/ omega) rfl) q1)
          exact h (-1 : Int32) M2 hG3 F4 j_20
        · refine to_in (pc := 27) rw_198_27 rfl (to_an (pc := 28) rw_198_28 rfl (to_an (pc := 29) rw_198_29 rfl (s_gR (pc := 30) rw_198_30 hG3 rfl (v := 86) rfl (to_in (pc := 33) rw_198_33 rfl (s_ial (pc := 34) rw_198_34 hG3 rfl (n := 24) rfl rfl (A := w.toInt) rfl (by omega) (by omega) (lo := 0) (hi := 7) rfl rfl (fun v21 w_22 _ _ => s_v (pc := 35) rw_198_35 (dp0 hd (by decide)) (ls0 := [.ref 77, .int v21]) rfl (Nat.le_of_ble_eq_true rfl) (Nat.le_of_ble_eq_true rfl) rfl (to_rc rfl rfl rfl (g_o hG3 rfl)) rfl (to_an (pc := 0) rw_197_0 rfl (s_gR (pc := 1) rw_197_1 hG3 rfl (v := 83) rfl (to_in (pc := 4) rw_197_4 rfl (s_ial (pc := 5) rw_197_5 hG3 rfl (n := 16) rfl rfl (A := v21.toInt) rfl (by omega) (by omega) (lo := 0) (hi := 63) rfl rfl (fun v23 w_24 _ _ => to_an (pc := 6) rw_197_6 rfl ?_)))))))))))
          refine s_gR (pc := 7) rw_197_7 hG3 rfl (v := 82) rfl (to_in (pc := 10) rw_197_10 rfl (s_ial (pc := 11) rw_197_11 hG3 rfl (n := 16) rfl rfl (A := v21.toInt) rfl (by omega) (by omega) (lo := 0) (hi := 59) rfl rfl (fun v25 w_26 _ _ => s_sub (pc := 12) rw_197_12 (A := v23.toInt) (B := v25.toInt) rfl rfl (by omega) (fun v27 e28 => to_c (pc := 13) rw_197_13 (x := (1 : Int32)) rfl rfl (s_add (pc := 14) rw_197_14 (A := v27.toInt) (B := 1) rfl rfl (by omega) (fun v29 e30 => to_r0 (pc := 15) rw_197_15 (s_shr (pc := 38) rw_198_38 (A := b.toInt) rfl (by omega) (fun v31 _ _ => b_ine (pc := 39) rw_198_39 (A := v31.toInt) rfl (fun h32 => ?_) (fun h32 => ?_)))))))))
          · refine to_c (pc := 61) rw_198_61 (x := (-1 : Int32)) rfl rfl (to_r0 (pc := 62) rw_198_62 ?_)
            have k_33 : (-1 : Int32).toInt = -1 := rfl
            have j_34 := (NJ_f (fun a i z => W_n W1 (by /-r77,2-/ omega) rfl) q1)
            exact h (-1 : Int32) M2 hG3 F4 j_34
          · refine to_in (pc := 42) rw_198_42 rfl (s_i2l (pc := 43) rw_198_43 (fun l35 e36 => s_s (pc := 44) rw_198_44 (dp0 hd (by decide)) (ls0 := [.long l35, .null, .null, .null]) rfl (Nat.le_of_ble_eq_true rfl) (Nat.le_of_ble_eq_true rfl) rfl (to_rcs rfl rfl) rfl (C_151 hX (dp1 hd (by decide)) hG3 (x := l35) (fun r37 M42 hG39 F38 p_40 p_41 => ?_))))
            have F43 := FR.c F4 F38 tg_106
            refine to_an (pc := 47) rw_198_47 rfl (s_gR (pc := 48) rw_198_48 hG39 rfl (v := 84) rfl (to_an (pc := 51) rw_198_51 rfl (s_gR (pc := 52) rw_198_52 hG39 rfl (v := 86) rfl (to_in (pc := 55) rw_198_55 rfl (s_ialk (pc := 56) rw_198_56 hG39 rfl (n := 24) rfl rfl (A := w.toInt) rfl (by omega) (by omega) (v := v21) (F_n F38 (show ¬ (86 < 0) by decide) w_22) (s_ial (pc := 57) rw_198_57 hG39 rfl (n := 16) rfl rfl (A := v21.toInt) rfl (by omega) (by omega) (lo := 0) (hi := 24) rfl rfl (fun v46 w_47 _ _ => b_ceq (pc := 58) rw_198_58 (A := r37.toInt) (B := v46.toInt) rfl rfl (fun h48 => ?_) (fun h48 => ?_))))))))
            · refine to_an (pc := 63) rw_198_63 rfl (to_c (pc := 64) rw_198_64 (x := (4 : Int32)) rfl rfl (to_in (pc := 65) rw_198_65 rfl (to_in (pc := 66) rw_198_66 rfl (to_c (pc := 67) rw_198_67 (x := (0 : Int32)) rfl rfl (s_v (pc := 68) rw_198_68 (dp0 hd (by decide)) (ls0 := [.ref 77, .int (4 : Int32), .int w, .int b, .int (0 : Int32)]) rfl (Nat.le_of_ble_eq_true rfl) (Nat.le_of_ble_eq_true rfl) rfl (to_rc rfl rfl rfl (g_o hG39 rfl)) rfl ?_)))))
              have k_49 : (4 : Int32).toInt = 4 := rfl
              have k_50 : (0 : Int32).toInt = 0 := rfl
              have c_51 : M42.2.1 77 29 = (M.2.1 77 29) := (F_n F38 (show ¬ (77 < 0) by decide) c_5)
              have t_52 : (M42.2.1 77 29).toInt = (M.2.1 77 29).toInt := congrArg Int32.toInt c_51
              have j_53 := (NJ_f (tg_102 F38) (NJ_f (fun a i z => W_n W1 (by /-r77,2-/ omega) rfl) q1))
              refine C_191 hX (dp1 hd (by decide)) hG39 (by omega) (by omega) (by omega) (by omega) (by omega) (by omega) (by omega) (by omega) (by omega) (by omega) j_53 (w := (4 : Int32)) (o := w) (m := b) (v := (0 : Int32)) (fun r54 M60 hG56 F55 p_57 p_58 p_59 => ?_)
              have F61 := FR.c F43 F55 tg_105
              have b_62 := g_b hG56 (a := 77) (i := 29) (lo := 0) (hi := 150) rfl rfl
              refine to_r0 (pc := 71) rw_198_71 ?_
              exact h r54 M60 hG56 F61 p_59
            · refine to_c (pc := 61) rw_198_61 (x := (-1 : Int32)) rfl rfl (to_r0 (pc := 62) rw_198_62 ?_)
              have k_63 : (-1 : Int32).toInt = -1 := rfl
              have j_64 := (NJ_f (tg_102 F38) (NJ_f (fun a i z => W_n W1 (by /-r77,2-/ omega) rfl) q1))
              exact h (-1 : Int32) M42 hG39 F43 j_64
set_option maxRecDepth 4000 in
set_option maxHeartbeats 0 in
theorem C_199 {X : mm_X} {d : Nat} {M : mm_M} {Q : Option Value → mm_M → Prop} {n : Int32} (hX : g_X X) (hd : 1 ≤ d) (hG : g_G M) (q1 : NJ M) (h : ∀ (r : Int32) (M1 : mm_M), g_G M1 → FR md_t2 M M1 → NJ M1 → Q (some (.int r)) M1) : mm_T X d 198 0 [.ref 77, .int n] [] M Q := by
  have F0 : FR md_t2 M M := FR.rf
  refine to_an (pc := 0) rw_199_0 rfl (to_c (pc := 1) rw_199_1 (x := (0 : Int32)) rfl rfl (s_pI (pc := 2) rw_199_2 hG rfl (fun M2 W1 => ?_)))
  have hG3 := g_wf hG W1 rfl rfl (by decide)
  have F4 := FR.w F0 W1 (show 77 = 77 ∧ (2 = 2 ∨ 2 = 29) ∨ 90 ≤ 77 ∧ 77 ≤ 93 by decide)
  refine to_an (pc := 5) rw_199_5 rfl ?_
  have c_5 : M2.2.1 77 29 = (M.2.1 77 29) := (W_n W1 (by decide) rfl)
  have b_6 := g_b hG (a := 77) (i := 29) (lo := 0) (hi := 150) rfl rfl
  refine tt_gI (pc := 6) rw_199_6 (g_o hG3 rfl) (v := (M.2.1 77 29)) c_5 (to_c (pc := 9) rw_199_9 (x := (150 : Int32)) rfl rfl (b_ceq (pc := 12) rw_199_12 (A := (M.2.1 77 29).toInt) (B := 150) rfl rfl (fun h7 => ?_) (fun h7 => ?_)))
  · refine to_c (pc := 27) rw_199_27 (x := (-1 : Int32)) rfl rfl (to_go (pc := 28) rw_199_28 (to_r0 (pc := 39) rw_199_39 ?_))
    have k_8 : (-1 : Int32).toInt = -1 := rfl
    have j_9 := (NJ_f (fun a i z => W_n W1 (by /-r77,2-/ omega) rfl) q1)
    exact h (-1 : Int32) M2 hG3 F4 j_9
  · refine to_in (pc := 15) rw_199_15 rfl (b_ilt (pc := 16) rw_199_16 (A := n.toInt) rfl (fun h10 => ?_) (fun h10 => ?_))
    · refine to_c (pc := 27) rw_199_27 (x := (-1 : Int32)) rfl rfl (to_go (pc := 28) rw_199_28 (to_r0 (pc := 39) rw_199_39 ?_))
      have k_11 : (-1 : Int32).toInt = -1 := rfl
      have j_12 := (NJ_f (fun a i z => W_n W1 (by /-r77,2-/ omega) rfl) q1)
      exact h (-1 : Int32) M2 hG3 F4 j_12
    · refine to_in (pc := 19) rw_199_19 rfl (to_an (pc := 20) rw_199_20 rfl (tt_gI (pc := 21) rw_199_21 (g_o hG3 rfl) (v := (M.2.1 77 29)) c_5 (b_clt (pc := 24) rw_199_24 (A := n.toInt) (B := (M.2.1 77 29).toInt) rfl rfl (fun h13 => ?_) (fun h13 => ?_))))
      · refine to_an (pc := 31) rw_199_31 rfl (to_c (pc := 32) rw_199_32 (x := (5 : Int32)) rfl rfl (to_in (pc := 33) rw_199_33 rfl (to_c (pc := 34) rw_199_34 (x := (0 : Int32)) rfl rfl (to_c (pc := 35) rw_199_35 (x := (0 : Int32)) rfl rfl (s_v (pc := 36) rw_199_36 (dp0 hd (by decide)) (ls0 := [.ref 77, .int (5 : Int32), .int n, .int (0 : Int32), .int (0 : Int32)]) rfl (Nat.le_of_ble_eq_true rfl) (Nat.le_of_ble_eq_true rfl) rfl (to_rc rfl rfl rfl (g_o hG3 rfl)) rfl ?_)))))
        have k_14 : (5 : Int32).toInt = 5 := rfl
        have k_15 : (0 : Int32).toInt = 0 := rfl
        have t_16 : (M2.2.1 77 29).toInt = (M.2.1 77 29).toInt := congrArg Int32.toInt c_5
        have j_17 := (NJ_f (fun a i z => W_n W1 (by /-r77,2-/ omega) rfl) q1)
        refine C_191 hX (dp1 hd (by decide)) hG3 (by omega) (by omega) (by omega) (by omega) (by omega) (by omega) (by omega) (by omega) (by omega) (by omega) j_17 (w := (5 : Int32)) (o := n) (m := (0 : Int32)) (v := (0 : Int32)) (fun r18 M24 hG20 F19 p_21 p_22 p_23 => ?_)
        have F25 := FR.c F4 F19 tg_105
        have b_26 := g_b hG20 (a := 77) (i := 29) (lo := 0) (hi := 150) rfl rfl
        refine to_r0 (pc := 39) rw_199_39 ?_
        exact h r18 M24 hG20 F25 p_23
      · refine to_c (pc := 27) rw_199_27 (x := (-1 : Int32)) rfl rfl (to_go (pc := 28) rw_199_28 (to_r0 (pc := 39) rw_199_39 ?_))
        have k_27 : (-1 : Int32).toInt = -1 := rfl
        have j_28 := (NJ_f (fun a i z => W_n W1 (by /-r77,2-/ omega) rfl) q1)
        exact h (-1 : Int32) M2 hG3 F4 j_28
set_option maxRecDepth 4000 in
set_option maxHeartbeats 0 in
theorem C_200 {X : mm_X} {d : Nat} {M : mm_M} {Q : Option Value → mm_M → Prop} {n : Int32} {c : Int32} (hX : g_X X) (hd : 3 ≤ d) (hG : g_G M) (q1 : NJ M) (h : ∀ (r : Int64) (M1 : mm_M), g_G M1 → FR md_k2 M M1 → Q (some (.long r)) M1) : mm_T X d 199 0 [.ref 77, .int n, .int c] [] M Q := by
  have F0 : FR md_k2 M M := FR.rf
  refine to_an (pc := 0) rw_200_0 rfl (to_c (pc := 1) rw_200_1 (x := (0 : Int32)) rfl rfl (s_pI (pc := 2) rw_200_2 hG rfl (fun M2 W1 => ?_)))
  have hG3 := g_wf hG W1 rfl rfl (by decide)
  have F4 := FR.w F0 W1 (show 77 = 77 ∧ 2 = 2 ∨ 94 ≤ 77 ∧ 77 ≤ 98 by decide)
  refine to_an (pc := 5) rw_200_5 rfl (to_in (pc := 6) rw_200_6 rfl (s_v (pc := 7) rw_200_7 (dp0 hd (by decide)) (ls0 := [.ref 77, .int n]) rfl (Nat.le_of_ble_eq_true rfl) (Nat.le_of_ble_eq_true rfl) rfl (to_rc rfl rfl rfl (g_o hG3 rfl)) rfl (to_in (pc := 0) rw_186_0 rfl (b_ilt (pc := 1) rw_186_1 (A := n.toInt) rfl (fun h5 => ?_) (fun h5 => ?_)))))
  · refine to_c (pc := 16) rw_186_16 (x := (0 : Int32)) rfl rfl (s_r1 (pc := 17) rw_186_17 (A := 0) rfl (by decide) (b_ieq_t (pc := 10) rw_200_10 (A := 0) rfl (by decide) (s_cl (pc := 21) rw_200_21 rfl (fun l6 => to_rl (pc := 24) rw_200_24 ?_))))
    exact h l6 M2 hG3 F4 
  · refine to_in (pc := 4) rw_186_4 rfl (to_an (pc := 5) rw_186_5 rfl ?_)
    have c_7 : M2.2.1 77 29 = (M.2.1 77 29) := (W_n W1 (by decide) rfl)
    have b_8 := g_b hG (a := 77) (i := 29) (lo := 0) (hi := 150) rfl rfl
    refine tt_gI (pc := 6) rw_186_6 (g_o hG3 rfl) (v := (M.2.1 77 29)) c_7 (b_cgt (pc := 9) rw_186_9 (A := n.toInt) (B := (M.2.1 77 29).toInt) rfl rfl (fun h9 => ?_) (fun h9 => ?_))
    · refine to_c (pc := 16) rw_186_16 (x := (0 : Int32)) rfl rfl (s_r1 (pc := 17) rw_186_17 (A := 0) rfl (by decide) (b_ieq_t (pc := 10) rw_200_10 (A := 0) rfl (by decide) (s_cl (pc := 21) rw_200_21 rfl (fun l10 => to_rl (pc := 24) rw_200_24 ?_))))
      exact h l10 M2 hG3 F4 
    · refine to_c (pc := 12) rw_186_12 (x := (1 : Int32)) rfl rfl (to_go (pc := 13) rw_186_13 (s_r1 (pc := 17) rw_186_17 (A := 1) rfl (by decide) (b_ieq_f (pc := 10) rw_200_10 (A := 1) rfl (by decide) (to_an (pc := 13) rw_200_13 rfl (to_in (pc := 14) rw_200_14 rfl (s_v (pc := 15) rw_200_15 (dp0 hd (by decide)) (ls0 := [.ref 77, .int c]) rfl (Nat.le_of_ble_eq_true rfl) (Nat.le_of_ble_eq_true rfl) rfl (to_rc rfl rfl rfl (g_o hG3 rfl)) rfl (to_in (pc := 0) rw_187_0 rfl (b_ilt (pc := 1) rw_187_1 (A := c.toInt) rfl (fun h11 => ?_) (fun h11 => ?_)))))))))
      · refine to_c (pc := 16) rw_187_16 (x := (0 : Int32)) rfl rfl (s_r1 (pc := 17) rw_187_17 (A := 0) rfl (by decide) (b_ine_f (pc := 18) rw_200_18 (A := 0) rfl (by decide) (s_cl (pc := 21) rw_200_21 rfl (fun l12 => to_rl (pc := 24) rw_200_24 ?_))))
        exact h l12 M2 hG3 F4 
      · refine to_in (pc := 4) rw_187_4 rfl (to_an (pc := 5) rw_187_5 rfl ?_)
        have c_13 : M2.2.1 77 28 = (M.2.1 77 28) := (W_n W1 (by decide) rfl)
        have b_14 := g_b hG (a := 77) (i := 28) (lo := 0) (hi := 30) rfl rfl
        refine tt_gI (pc := 6) rw_187_6 (g_o hG3 rfl) (v := (M.2.1 77 28)) c_13 (b_cge (pc := 9) rw_187_9 (A := c.toInt) (B := (M.2.1 77 28).toInt) rfl rfl (fun h15 => ?_) (fun h15 => ?_))
        · refine to_c (pc := 16) rw_187_16 (x := (0 : Int32)) rfl rfl (s_r1 (pc := 17) rw_187_17 (A := 0) rfl (by decide) (b_ine_f (pc := 18) rw_200_18 (A := 0) rfl (by decide) (s_cl (pc := 21) rw_200_21 rfl (fun l16 => to_rl (pc := 24) rw_200_24 ?_))))
          exact h l16 M2 hG3 F4 
        · refine to_c (pc := 12) rw_187_12 (x := (1 : Int32)) rfl rfl (to_go (pc := 13) rw_187_13 (s_r1 (pc := 17) rw_187_17 (A := 1) rfl (by decide) (b_ine_t (pc := 18) rw_200_18 (A := 1) rfl (by decide) (to_an (pc := 25) rw_200_25 rfl (to_in (pc := 26) rw_200_26 rfl (s_v (pc := 27) rw_200_27 (dp0 hd (by decide)) (ls0 := [.ref 77, .int n, .null, .null]) rfl (Nat.le_of_ble_eq_true rfl) (Nat.le_of_ble_eq_true rfl) rfl (to_rc rfl rfl rfl (g_o hG3 rfl)) rfl ?_))))))
          have t_17 : (M2.2.1 77 29).toInt = (M.2.1 77 29).toInt := congrArg Int32.toInt c_7
          have j_18 := (NJ_f (fun a i z => W_n W1 (by /-r77,2-/ omega) rfl) q1)
          refine C_189 hX (dp1 hd (by decide)) hG3 (by omega) (by omega) (by omega) j_18 (n := n) (fun M21 hG20 F19 => ?_)
          have F22 := FR.c F4 F19 tg_263
          refine to_an (pc := 30) rw_200_30 rfl (s_gR (pc := 31) rw_200_31 hG20 rfl (v := 96) rfl (to_in (pc := 34) rw_200_34 rfl (s_lal (pc := 35) rw_200_35 hG20 rfl (n := 30) rfl (A := c.toInt) rfl (by omega) (by omega) (fun l23 => to_rl (pc := 36) rw_200_36 ?_))))
          exact h l23 M21 hG20 F22 
set_option maxRecDepth 4000 in
set_option maxHeartbeats 0 in
theorem T_201_0 {X : mm_X} {d : Nat} {M : mm_M} {Q : Option Value → mm_M → Prop} {f : Int32} (hX : g_X X) (hd : 0 ≤ d) (h : ∀ (r : Int32) (M1 : mm_M), g_G M1 → FR md_0 M M1 → Q (some (.int r)) M1) : ∀ nn9 : Nat, (∀ (N : mm_M) (x2 : Int32) (x3 : Int32), g_G N → FR md_0 M N → (0 ≤ x3.toInt) → (x3.toInt ≤ 12) → 12 - x3.toInt < (nn9 : Int) → mm_T X d 200 4 [.ref 77, .int f, .int x2, .int x3] [] N Q) := by
  intro nn9
  induction nn9 with
  | zero =>
    intro N x2 x3 hG F0 g1 g2 hm
    exfalso; omega
  | succ nn9 ih =>
    intro N x2 x3 hG F0 g1 g2 hm
    refine to_in (pc := 4) rw_201_4 rfl (to_an (pc := 5) rw_201_5 rfl ?_)
    have b_1 := g_b hG (a := 77) (i := 13) (lo := 0) (hi := 12) rfl rfl
    refine tt_gI (pc := 6) rw_201_6 (g_o hG rfl) (v := (N.2.1 77 13)) rfl (b_cge (pc := 9) rw_201_9 (A := x3.toInt) (B := (N.2.1 77 13).toInt) rfl rfl (fun h2 => ?_) (fun h2 => ?_))
    · refine to_in (pc := 38) rw_201_38 rfl (to_r0 (pc := 39) rw_201_39 ?_)
      exact h x2 N hG F0 
    · refine to_in (pc := 12) rw_201_12 rfl (to_an (pc := 13) rw_201_13 rfl (s_gR (pc := 14) rw_201_14 hG rfl (v := 86) rfl (to_in (pc := 17) rw_201_17 rfl (s_ial (pc := 18) rw_201_18 hG rfl (n := 24) rfl rfl (A := x3.toInt) rfl (by omega) (by omega) (lo := 0) (hi := 7) rfl rfl (fun v3 w_4 _ _ => to_in (pc := 19) rw_201_19 rfl (b_cne (pc := 20) rw_201_20 (A := v3.toInt) (B := f.toInt) rfl rfl (fun h5 => ?_) (fun h5 => ?_)))))))
      · refine to_c (pc := 29) rw_201_29 (x := (0 : Int32)) rfl rfl (s_any (pc := 30) rw_201_30 (fun _ _ => rfl) (fun v6 => to_isn (pc := 31) rw_201_31 (ls2 := [.ref 77, .int f, .int v6, .int x3]) rfl rfl (s_inc (pc := 32) rw_201_32 (ls2 := fun v => [.ref 77, .int f, .int v6, .int v]) rfl rfl (fun _ => rfl) (A := x3.toInt) (B := 1) rfl rfl (by omega) (fun v7 e8 => to_go (pc := 35) rw_201_35 ?_))))
        exact ih N v6 v7 hG F0 (by omega) (by omega) (by omega)
      · refine to_c (pc := 23) rw_201_23 (x := (1 : Int32)) rfl rfl (to_in (pc := 24) rw_201_24 rfl (s_any (pc := 25) rw_201_25 (fun _ _ => rfl) (fun v9 => to_go (pc := 26) rw_201_26 (s_any (pc := 30) rw_201_30 (fun _ _ => rfl) (fun v10 => to_isn (pc := 31) rw_201_31 (ls2 := [.ref 77, .int f, .int v10, .int x3]) rfl rfl (s_inc (pc := 32) rw_201_32 (ls2 := fun v => [.ref 77, .int f, .int v10, .int v]) rfl rfl (fun _ => rfl) (A := x3.toInt) (B := 1) rfl rfl (by omega) (fun v11 e12 => to_go (pc := 35) rw_201_35 ?_)))))))
        exact ih N v10 v11 hG F0 (by omega) (by omega) (by omega)
set_option maxRecDepth 4000 in
set_option maxHeartbeats 0 in
theorem C_201 {X : mm_X} {d : Nat} {M : mm_M} {Q : Option Value → mm_M → Prop} {f : Int32} (hX : g_X X) (hd : 0 ≤ d) (hG : g_G M) (h : ∀ (r : Int32) (M1 : mm_M), g_G M1 → FR md_0 M M1 → Q (some (.int r)) M1) : mm_T X d 200 0 [.ref 77, .int f, .null, .null] [] M Q := by
  have F0 : FR md_0 M M := FR.rf
  refine to_c (pc := 0) rw_201_0 (x := (0 : Int32)) rfl rfl (to_isn (pc := 1) rw_201_1 (ls2 := [.ref 77, .int f, .int (0 : Int32), .null]) rfl rfl (to_c (pc := 2) rw_201_2 (x := (0 : Int32)) rfl rfl (to_isn (pc := 3) rw_201_3 (ls2 := [.ref 77, .int f, .int (0 : Int32), .int (0 : Int32)]) rfl rfl ?_)))
  have k_13 : (0 : Int32).toInt = 0 := rfl
  exact (T_201_0 (f := f) hX hd  h ((12 - (0 : Int32).toInt).toNat + 1)) M (0 : Int32) (0 : Int32) hG F0 (by omega) (by omega) (by omega)
set_option maxRecDepth 4000 in
set_option maxHeartbeats 0 in
theorem C_202 {X : mm_X} {d : Nat} {M : mm_M} {Q : Option Value → mm_M → Prop} {n : Int32} {c : Int32} {f : Int32} (hX : g_X X) (hd : 3 ≤ d) (hG : g_G M) (q1 : NJ M) (h : ∀ (r : Int32) (M1 : mm_M), g_G M1 → FR md_k2 M M1 → Q (some (.int r)) M1) : mm_T X d 201 0 [.ref 77, .int n, .int c, .int f] [] M Q := by
  have F0 : FR md_k2 M M := FR.rf
  refine to_an (pc := 0) rw_202_0 rfl (to_c (pc := 1) rw_202_1 (x := (0 : Int32)) rfl rfl (s_pI (pc := 2) rw_202_2 hG rfl (fun M2 W1 => ?_)))
  have hG3 := g_wf hG W1 rfl rfl (by decide)
  have F4 := FR.w F0 W1 (show 77 = 77 ∧ 2 = 2 ∨ 94 ≤ 77 ∧ 77 ≤ 98 by decide)
  refine to_an (pc := 5) rw_202_5 rfl (to_in (pc := 6) rw_202_6 rfl (s_v (pc := 7) rw_202_7 (dp0 hd (by decide)) (ls0 := [.ref 77, .int n]) rfl (Nat.le_of_ble_eq_true rfl) (Nat.le_of_ble_eq_true rfl) rfl (to_rc rfl rfl rfl (g_o hG3 rfl)) rfl (to_in (pc := 0) rw_186_0 rfl (b_ilt (pc := 1) rw_186_1 (A := n.toInt) rfl (fun h5 => ?_) (fun h5 => ?_)))))
  · refine to_c (pc := 16) rw_186_16 (x := (0 : Int32)) rfl rfl (s_r1 (pc := 17) rw_186_17 (A := 0) rfl (by decide) (b_ieq_t (pc := 10) rw_202_10 (A := 0) rfl (by decide) (to_c (pc := 29) rw_202_29 (x := (-2 : Int32)) rfl rfl (to_r0 (pc := 31) rw_202_31 ?_))))
    have k_6 : (-2 : Int32).toInt = -2 := rfl
    exact h (-2 : Int32) M2 hG3 F4 
  · refine to_in (pc := 4) rw_186_4 rfl (to_an (pc := 5) rw_186_5 rfl ?_)
    have c_7 : M2.2.1 77 29 = (M.2.1 77 29) := (W_n W1 (by decide) rfl)
    have b_8 := g_b hG (a := 77) (i := 29) (lo := 0) (hi := 150) rfl rfl
    refine tt_gI (pc := 6) rw_186_6 (g_o hG3 rfl) (v := (M.2.1 77 29)) c_7 (b_cgt (pc := 9) rw_186_9 (A := n.toInt) (B := (M.2.1 77 29).toInt) rfl rfl (fun h9 => ?_) (fun h9 => ?_))
    · refine to_c (pc := 16) rw_186_16 (x := (0 : Int32)) rfl rfl (s_r1 (pc := 17) rw_186_17 (A := 0) rfl (by decide) (b_ieq_t (pc := 10) rw_202_10 (A := 0) rfl (by decide) (to_c (pc := 29) rw_202_29 (x := (-2 : Int32)) rfl rfl (to_r0 (pc := 31) rw_202_31 ?_))))
      have k_10 : (-2 : Int32).toInt = -2 := rfl
      exact h (-2 : Int32) M2 hG3 F4 
    · refine to_c (pc := 12) rw_186_12 (x := (1 : Int32)) rfl rfl (to_go (pc := 13) rw_186_13 (s_r1 (pc := 17) rw_186_17 (A := 1) rfl (by decide) (b_ieq_f (pc := 10) rw_202_10 (A := 1) rfl (by decide) (to_an (pc := 13) rw_202_13 rfl (to_in (pc := 14) rw_202_14 rfl (s_v (pc := 15) rw_202_15 (dp0 hd (by decide)) (ls0 := [.ref 77, .int c]) rfl (Nat.le_of_ble_eq_true rfl) (Nat.le_of_ble_eq_true rfl) rfl (to_rc rfl rfl rfl (g_o hG3 rfl)) rfl (to_in (pc := 0) rw_187_0 rfl (b_ilt (pc := 1) rw_187_1 (A := c.toInt) rfl (fun h11 => ?_) (fun h11 => ?_)))))))))
      · refine to_c (pc := 16) rw_187_16 (x := (0 : Int32)) rfl rfl (s_r1 (pc := 17) rw_187_17 (A := 0) rfl (by decide) (b_ieq_t (pc := 18) rw_202_18 (A := 0) rfl (by decide) (to_c (pc := 29) rw_202_29 (x := (-2 : Int32)) rfl rfl (to_r0 (pc := 31) rw_202_31 ?_))))
        have k_12 : (-2 : Int32).toInt = -2 := rfl
        exact h (-2 : Int32) M2 hG3 F4 
      · refine to_in (pc := 4) rw_187_4 rfl (to_an (pc := 5) rw_187_5 rfl ?_)
        have c_13 : M2.2.1 77 28 = (M.2.1 77 28) := (W_n W1 (by decide) rfl)
        have b_14 := g_b hG (a := 77) (i := 28) (lo := 0) (hi := 30) rfl rfl
        refine tt_gI (pc := 6) rw_187_6 (g_o hG3 rfl) (v := (M.2.1 77 28)) c_13 (b_cge (pc := 9) rw_187_9 (A := c.toInt) (B := (M.2.1 77 28).toInt) rfl rfl (fun h15 => ?_) (fun h15 => ?_))
        · refine to_c (pc := 16) rw_187_16 (x := (0 : Int32)) rfl rfl (s_r1 (pc := 17) rw_187_17 (A := 0) rfl (by decide) (b_ieq_t (pc := 18) rw_202_18 (A := 0) rfl (by decide) (to_c (pc := 29) rw_202_29 (x := (-2 : Int32)) rfl rfl (to_r0 (pc := 31) rw_202_31 ?_))))
          have k_16 : (-2 : Int32).toInt = -2 := rfl
          exact h (-2 : Int32) M2 hG3 F4 
        · refine to_c (pc := 12) rw_187_12 (x := (1 : Int32)) rfl rfl (to_go (pc := 13) rw_187_13 (s_r1 (pc := 17) rw_187_17 (A := 1) rfl (by decide) (b_ieq_f (pc := 18) rw_202_18 (A := 1) rfl (by decide) (to_an (pc := 21) rw_202_21 rfl (to_in (pc := 22) rw_202_22 rfl (s_v (pc := 23) rw_202_23 (dp0 hd (by decide)) (ls0 := [.ref 77, .int f]) rfl (Nat.le_of_ble_eq_true rfl) (Nat.le_of_ble_eq_true rfl) rfl (to_rc rfl rfl rfl (g_o hG3 rfl)) rfl (to_in (pc := 0) rw_178_0 rfl (b_ilt (pc := 1) rw_178_1 (A := f.toInt) rfl (fun h17 => ?_) (fun h17 => ?_)))))))))
          · refine to_c (pc := 16) rw_178_16 (x := (0 : Int32)) rfl rfl (s_r1 (pc := 17) rw_178_17 (A := 0) rfl (by decide) (b_ine_f (pc := 26) rw_202_26 (A := 0) rfl (by decide) (to_c (pc := 29) rw_202_29 (x := (-2 : Int32)) rfl rfl (to_r0 (pc := 31) rw_202_31 ?_))))
            have k_18 : (-2 : Int32).toInt = -2 := rfl
            exact h (-2 : Int32) M2 hG3 F4 
          · refine to_in (pc := 4) rw_178_4 rfl (to_an (pc := 5) rw_178_5 rfl ?_)
            have c_19 : M2.2.1 77 12 = (M.2.1 77 12) := (W_n W1 (by decide) rfl)
            have b_20 := g_b hG (a := 77) (i := 12) (lo := 0) (hi := 8) rfl rfl
            refine tt_gI (pc := 6) rw_178_6 (g_o hG3 rfl) (v := (M.2.1 77 12)) c_19 (b_cge (pc := 9) rw_178_9 (A := f.toInt) (B := (M.2.1 77 12).toInt) rfl rfl (fun h21 => ?_) (fun h21 => ?_))
            · refine to_c (pc := 16) rw_178_16 (x := (0 : Int32)) rfl rfl (s_r1 (pc := 17) rw_178_17 (A := 0) rfl (by decide) (b_ine_f (pc := 26) rw_202_26 (A := 0) rfl (by decide) (to_c (pc := 29) rw_202_29 (x := (-2 : Int32)) rfl rfl (to_r0 (pc := 31) rw_202_31 ?_))))
              have k_22 : (-2 : Int32).toInt = -2 := rfl
              exact h (-2 : Int32) M2 hG3 F4 
            · refine to_c (pc := 12) rw_178_12 (x := (1 : Int32)) rfl rfl (to_go (pc := 13) rw_178_13 (s_r1 (pc := 17) rw_178_17 (A := 1) rfl (by decide) (b_ine_t (pc := 26) rw_202_26 (A := 1) rfl (by decide) (to_an (pc := 32) rw_202_32 rfl (to_in (pc := 33) rw_202_33 rfl (s_v (pc := 34) rw_202_34 (dp0 hd (by decide)) (ls0 := [.ref 77, .int n, .null, .null]) rfl (Nat.le_of_ble_eq_true rfl) (Nat.le_of_ble_eq_true rfl) rfl (to_rc rfl rfl rfl (g_o hG3 rfl)) rfl ?_))))))
              have t_23 : (M2.2.1 77 29).toInt = (M.2.1 77 29).toInt := congrArg Int32.toInt c_7
              have j_24 := (NJ_f (fun a i z => W_n W1 (by /-r77,2-/ omega) rfl) q1)
              refine C_189 hX (dp1 hd (by decide)) hG3 (by omega) (by omega) (by omega) j_24 (n := n) (fun M27 hG26 F25 => ?_)
              have F28 := FR.c F4 F25 tg_263
              refine to_an (pc := 37) rw_202_37 rfl (s_gR (pc := 38) rw_202_38 hG26 rfl (v := 81) rfl (to_in (pc := 41) rw_202_41 rfl (s_ial (pc := 42) rw_202_42 hG26 rfl (n := 16) rfl rfl (A := f.toInt) rfl (by omega) (by omega) (lo := 0) (hi := 3) rfl rfl (fun v29 w_30 _ _ => to_c (pc := 43) rw_202_43 (x := (3 : Int32)) rfl rfl (b_cne (pc := 44) rw_202_44 (A := v29.toInt) (B := 3) rfl rfl (fun h31 => ?_) (fun h31 => ?_))))))
              · refine to_an (pc := 62) rw_202_62 rfl (s_gR (pc := 63) rw_202_63 hG26 rfl (v := 97) rfl (to_c (pc := 66) rw_202_66 (x := (8 : Int32)) rfl rfl (to_in (pc := 68) rw_202_68 rfl (s_mul (pc := 69) rw_202_69 (A := 8) (B := c.toInt) rfl rfl (by omega) (fun v32 e33 => to_in (pc := 70) rw_202_70 rfl (s_add (pc := 71) rw_202_71 (A := v32.toInt) (B := f.toInt) rfl rfl (by omega) (fun v34 e35 => s_ial (pc := 72) rw_202_72 hG26 rfl (n := 240) rfl rfl (A := v34.toInt) rfl (by omega) (by omega) (lo := -2147483648) (hi := 2147483647) rfl rfl (fun v36 w_37 _ _ => to_r0 (pc := 73) rw_202_73 ?_))))))))
                exact h v36 M27 hG26 F28 
              · refine to_an (pc := 47) rw_202_47 rfl (s_gR (pc := 48) rw_202_48 hG26 rfl (v := 98) rfl (to_in (pc := 51) rw_202_51 rfl (s_ial (pc := 52) rw_202_52 hG26 rfl (n := 30) rfl rfl (A := c.toInt) rfl (by omega) (by omega) (lo := -2147483648) (hi := 2147483647) rfl rfl (fun v38 w_39 _ _ => to_an (pc := 53) rw_202_53 rfl (to_in (pc := 54) rw_202_54 rfl (s_v (pc := 55) rw_202_55 (dp0 hd (by decide)) (ls0 := [.ref 77, .int f, .null, .null]) rfl (Nat.le_of_ble_eq_true rfl) (Nat.le_of_ble_eq_true rfl) rfl (to_rc rfl rfl rfl (g_o hG26 rfl)) rfl (C_201 hX (dp1 hd (by decide)) hG26 (f := f) (fun r40 M43 hG42 F41 => ?_))))))))
                have F44 := FR.c F28 F41 tg_264
                refine s_any (pc := 58) rw_202_58 (fun _ _ => rfl) (fun v45 => to_go (pc := 59) rw_202_59 (to_r0 (pc := 73) rw_202_73 ?_))
                exact h v45 M43 hG42 F44 
set_option maxRecDepth 4000 in
set_option maxHeartbeats 0 in
theorem C_203 {X : mm_X} {d : Nat} {M : mm_M} {Q : Option Value → mm_M → Prop} {c : Int32} (hX : g_X X) (hd : 1 ≤ d) (hG : g_G M) (h : ∀ (r : Int32) (M1 : mm_M), g_G M1 → FR md_tu M M1 → (0 ≤ r.toInt) → (r.toInt ≤ 1) → (r.toInt = 1 → 0 ≤ c.toInt ∧ c.toInt < (M.2.1 77 28).toInt) → (r.toInt = 0 → ¬ (0 ≤ c.toInt ∧ c.toInt < (M.2.1 77 28).toInt)) → Q (some (.int r)) M1) : mm_T X d 202 0 [.ref 77, .int c] [] M Q := by
  have F0 : FR md_tu M M := FR.rf
  refine to_an (pc := 0) rw_203_0 rfl (to_c (pc := 1) rw_203_1 (x := (0 : Int32)) rfl rfl (s_pI (pc := 2) rw_203_2 hG rfl (fun M2 W1 => ?_)))
  have hG3 := g_wf hG W1 rfl rfl (by decide)
  have F4 := FR.w F0 W1 (show 77 = 77 ∧ (2 = 2 ∨ 2 = 41) by decide)
  refine to_an (pc := 5) rw_203_5 rfl (to_in (pc := 6) rw_203_6 rfl (s_v (pc := 7) rw_203_7 (dp0 hd (by decide)) (ls0 := [.ref 77, .int c]) rfl (Nat.le_of_ble_eq_true rfl) (Nat.le_of_ble_eq_true rfl) rfl (to_rc rfl rfl rfl (g_o hG3 rfl)) rfl (to_in (pc := 0) rw_187_0 rfl (b_ilt (pc := 1) rw_187_1 (A := c.toInt) rfl (fun h5 => ?_) (fun h5 => ?_)))))
  · refine to_c (pc := 16) rw_187_16 (x := (0 : Int32)) rfl rfl (s_r1 (pc := 17) rw_187_17 (A := 0) rfl (by decide) (b_ine_f (pc := 10) rw_203_10 (A := 0) rfl (by decide) (to_c (pc := 13) rw_203_13 (x := (0 : Int32)) rfl rfl (s_r1 (pc := 14) rw_203_14 (A := 0) rfl (by decide) ?_))))
    have k_6 : (0 : Int32).toInt = 0 := rfl
    exact h (0 : Int32) M2 hG3 F4 (by decide) (by decide) (by omega) (by omega)
  · refine to_in (pc := 4) rw_187_4 rfl (to_an (pc := 5) rw_187_5 rfl ?_)
    have c_7 : M2.2.1 77 28 = (M.2.1 77 28) := (W_n W1 (by decide) rfl)
    have b_8 := g_b hG (a := 77) (i := 28) (lo := 0) (hi := 30) rfl rfl
    refine tt_gI (pc := 6) rw_187_6 (g_o hG3 rfl) (v := (M.2.1 77 28)) c_7 (b_cge (pc := 9) rw_187_9 (A := c.toInt) (B := (M.2.1 77 28).toInt) rfl rfl (fun h9 => ?_) (fun h9 => ?_))
    · refine to_c (pc := 16) rw_187_16 (x := (0 : Int32)) rfl rfl (s_r1 (pc := 17) rw_187_17 (A := 0) rfl (by decide) (b_ine_f (pc := 10) rw_203_10 (A := 0) rfl (by decide) (to_c (pc := 13) rw_203_13 (x := (0 : Int32)) rfl rfl (s_r1 (pc := 14) rw_203_14 (A := 0) rfl (by decide) ?_))))
      have k_10 : (0 : Int32).toInt = 0 := rfl
      exact h (0 : Int32) M2 hG3 F4 (by decide) (by decide) (by omega) (by omega)
    · refine to_c (pc := 12) rw_187_12 (x := (1 : Int32)) rfl rfl (to_go (pc := 13) rw_187_13 (s_r1 (pc := 17) rw_187_17 (A := 1) rfl (by decide) (b_ine_t (pc := 10) rw_203_10 (A := 1) rfl (by decide) (to_an (pc := 15) rw_203_15 rfl (to_dupr (pc := 16) rw_203_16 ?_)))))
      have c_11 : M2.2.1 77 41 = (M.2.1 77 41) := (W_n W1 (by decide) rfl)
      refine tt_gI (pc := 17) rw_203_17 (g_o hG3 rfl) (v := (M.2.1 77 41)) c_11 (to_c (pc := 20) rw_203_20 (x := (1 : Int32)) rfl rfl (to_in (pc := 21) rw_203_21 rfl (s_any (pc := 22) rw_203_22 (fun _ _ => rfl) (fun v12 => s_any (pc := 23) rw_203_23 (fun _ _ => rfl) (fun v13 => s_pI (pc := 24) rw_203_24 hG3 rfl (fun M15 W14 => ?_))))))
      have hG16 := g_wf hG3 W14 rfl rfl (by decide)
      have F17 := FR.w F4 W14 (show 77 = 77 ∧ (41 = 2 ∨ 41 = 41) by decide)
      refine to_c (pc := 27) rw_203_27 (x := (1 : Int32)) rfl rfl (s_r1 (pc := 28) rw_203_28 (A := 1) rfl (by decide) ?_)
      have k_18 : (1 : Int32).toInt = 1 := rfl
      exact h (1 : Int32) M15 hG16 F17 (by decide) (by decide) (by omega) (by omega)
set_option maxRecDepth 4000 in
set_option maxHeartbeats 0 in
theorem C_204 {X : mm_X} {d : Nat} {M : mm_M} {Q : Option Value → mm_M → Prop} (hX : g_X X) (hd : 0 ≤ d) (hG : g_G M) (h : ∀ (r : Int32) (M1 : mm_M), g_G M1 → FR md_2 M M1 → (r.toInt = (M.2.1 77 41).toInt) → Q (some (.int r)) M1) : mm_T X d 203 0 [.ref 77] [] M Q := by
  have F0 : FR md_2 M M := FR.rf
  refine to_an (pc := 0) rw_204_0 rfl (to_c (pc := 1) rw_204_1 (x := (0 : Int32)) rfl rfl (s_pI (pc := 2) rw_204_2 hG rfl (fun M2 W1 => ?_)))
  have hG3 := g_wf hG W1 rfl rfl (by decide)
  have F4 := FR.w F0 W1 (show 77 = 77 ∧ 2 = 2 by decide)
  refine to_an (pc := 5) rw_204_5 rfl ?_
  have c_5 : M2.2.1 77 41 = (M.2.1 77 41) := (W_n W1 (by decide) rfl)
  refine tt_gI (pc := 6) rw_204_6 (g_o hG3 rfl) (v := (M.2.1 77 41)) c_5 (to_r0 (pc := 9) rw_204_9 ?_)
  exact h (M.2.1 77 41) M2 hG3 F4 (by omega)
set_option maxRecDepth 4000 in
set_option maxHeartbeats 0 in
theorem C_206 {X : mm_X} {d : Nat} {M : mm_M} {Q : Option Value → mm_M → Prop} {p : Int32} {k : Int32} (hX : g_X X) (hd : 1 ≤ d) (hG : g_G M) (h : ∀ (r : Int32) (M1 : mm_M), g_G M1 → FR md_2 M M1 → Q (some (.int r)) M1) : mm_T X d 205 0 [.ref 77, .int p, .int k] [] M Q := by
  have F0 : FR md_2 M M := FR.rf
  refine to_an (pc := 0) rw_206_0 rfl (to_c (pc := 1) rw_206_1 (x := (0 : Int32)) rfl rfl (s_pI (pc := 2) rw_206_2 hG rfl (fun M2 W1 => ?_)))
  have hG3 := g_wf hG W1 rfl rfl (by decide)
  have F4 := FR.w F0 W1 (show 77 = 77 ∧ 2 = 2 by decide)
  refine to_in (pc := 5) rw_206_5 rfl (s_s (pc := 6) rw_206_6 (dp0 hd (by decide)) (ls0 := [.int p]) rfl (Nat.le_of_ble_eq_true rfl) (Nat.le_of_ble_eq_true rfl) rfl (to_rcs rfl rfl) rfl (to_in (pc := 0) rw_205_0 rfl (b_ilt (pc := 1) rw_205_1 (A := p.toInt) rfl (fun h5 => ?_) (fun h5 => ?_))))
  · refine to_c (pc := 14) rw_205_14 (x := (0 : Int32)) rfl rfl (s_r1 (pc := 15) rw_205_15 (A := 0) rfl (by decide) (b_ieq_t (pc := 9) rw_206_9 (A := 0) rfl (by decide) (to_c (pc := 40) rw_206_40 (x := (-1 : Int32)) rfl rfl (to_r0 (pc := 41) rw_206_41 ?_))))
    have k_6 : (-1 : Int32).toInt = -1 := rfl
    exact h (-1 : Int32) M2 hG3 F4 
  · refine to_in (pc := 4) rw_205_4 rfl (to_c (pc := 5) rw_205_5 (x := (6 : Int32)) rfl rfl (b_cge (pc := 7) rw_205_7 (A := p.toInt) (B := 6) rfl rfl (fun h7 => ?_) (fun h7 => ?_)))
    · refine to_c (pc := 14) rw_205_14 (x := (0 : Int32)) rfl rfl (s_r1 (pc := 15) rw_205_15 (A := 0) rfl (by decide) (b_ieq_t (pc := 9) rw_206_9 (A := 0) rfl (by decide) (to_c (pc := 40) rw_206_40 (x := (-1 : Int32)) rfl rfl (to_r0 (pc := 41) rw_206_41 ?_))))
      have k_8 : (-1 : Int32).toInt = -1 := rfl
      exact h (-1 : Int32) M2 hG3 F4 
    · refine to_c (pc := 10) rw_205_10 (x := (1 : Int32)) rfl rfl (to_go (pc := 11) rw_205_11 (s_r1 (pc := 15) rw_205_15 (A := 1) rfl (by decide) (b_ieq_f (pc := 9) rw_206_9 (A := 1) rfl (by decide) (to_in (pc := 12) rw_206_12 rfl (b_ilt (pc := 13) rw_206_13 (A := k.toInt) rfl (fun h9 => ?_) (fun h9 => ?_))))))
      · refine to_c (pc := 40) rw_206_40 (x := (-1 : Int32)) rfl rfl (to_r0 (pc := 41) rw_206_41 ?_)
        have k_10 : (-1 : Int32).toInt = -1 := rfl
        exact h (-1 : Int32) M2 hG3 F4 
      · refine to_in (pc := 16) rw_206_16 rfl (to_an (pc := 17) rw_206_17 rfl (s_gR (pc := 18) rw_206_18 hG3 rfl (v := 100) rfl (to_in (pc := 21) rw_206_21 rfl (s_ial (pc := 22) rw_206_22 hG3 rfl (n := 6) rfl rfl (A := p.toInt) rfl (by omega) (by omega) (lo := 0) (hi := 30) rfl rfl (fun v11 w_12 _ _ => b_cge (pc := 23) rw_206_23 (A := k.toInt) (B := v11.toInt) rfl rfl (fun h13 => ?_) (fun h13 => ?_))))))
        · refine to_c (pc := 40) rw_206_40 (x := (-1 : Int32)) rfl rfl (to_r0 (pc := 41) rw_206_41 ?_)
          have k_14 : (-1 : Int32).toInt = -1 := rfl
          exact h (-1 : Int32) M2 hG3 F4 
        · refine to_an (pc := 26) rw_206_26 rfl (s_gR (pc := 27) rw_206_27 hG3 rfl (v := 99) rfl (to_c (pc := 30) rw_206_30 (x := (30 : Int32)) rfl rfl (to_in (pc := 32) rw_206_32 rfl (s_mul (pc := 33) rw_206_33 (A := 30) (B := p.toInt) rfl rfl (by omega) (fun v15 e16 => to_in (pc := 34) rw_206_34 rfl (s_add (pc := 35) rw_206_35 (A := v15.toInt) (B := k.toInt) rfl rfl (by omega) (fun v17 e18 => s_ial (pc := 36) rw_206_36 hG3 rfl (n := 180) rfl rfl (A := v17.toInt) rfl (by omega) (by omega) (lo := 0) (hi := 29) rfl rfl (fun v19 w_20 _ _ => to_go (pc := 37) rw_206_37 (to_r0 (pc := 41) rw_206_41 ?_)))))))))
          exact h v19 M2 hG3 F4 
set_option maxRecDepth 4000 in
set_option maxHeartbeats 0 in
theorem T_207_0 {X : mm_X} {d : Nat} {M : mm_M} {Q : Option Value → mm_M → Prop} {c : Int32} {x : Int64} (hX : g_X X) (hd : 1 ≤ d) (q1 : 0 ≤ c.toInt) (q2 : c.toInt ≤ 29) (h : ∀ (r : Int32) (M1 : mm_M), g_G M1 → FR md_0 M M1 → (0 ≤ r.toInt) → (r.toInt ≤ 1) → Q (some (.int r)) M1) : ∀ nn9 : Nat, (∀ (N : mm_M) (x4 : Int32), g_G N → FR md_0 M N → (0 ≤ x4.toInt) → (x4.toInt ≤ 60) → 60 - x4.toInt < (nn9 : Int) → mm_T X d 206 3 [.ref 77, .int c, .long x, .null, .int x4] [] N Q) := by
  intro nn9
  induction nn9 with
  | zero =>
    intro N x4 hG F0 g1 g2 hm
    exfalso; omega
  | succ nn9 ih =>
    intro N x4 hG F0 g1 g2 hm
    refine to_i (pc := 3) rw_207_3 rfl (to_an (pc := 5) rw_207_5 rfl ?_)
    have b_1 := g_b hG (a := 77) (i := 11) (lo := 10) (hi := 60) rfl rfl
    refine tt_gI (pc := 6) rw_207_6 (g_o hG rfl) (v := (N.2.1 77 11)) rfl (b_cge (pc := 9) rw_207_9 (A := x4.toInt) (B := (N.2.1 77 11).toInt) rfl rfl (fun h2 => ?_) (fun h2 => ?_))
    · refine to_c (pc := 67) rw_207_67 (x := (1 : Int32)) rfl rfl (s_r1 (pc := 68) rw_207_68 (A := 1) rfl (by decide) ?_)
      have k_3 : (1 : Int32).toInt = 1 := rfl
      exact h (1 : Int32) N hG F0 (by decide) (by decide)
    · refine to_ln (pc := 12) rw_207_12 rfl rfl rfl (to_i (pc := 13) rw_207_13 rfl (s_s (pc := 15) rw_207_15 (dp0 hd (by decide)) (ls0 := [.long x, .null, .int x4]) rfl (Nat.le_of_ble_eq_true rfl) (Nat.le_of_ble_eq_true rfl) rfl (to_rcs rfl rfl) rfl (to_ln (pc := 0) rw_150_0 rfl rfl rfl (to_in (pc := 1) rw_150_1 rfl (s_anyS (pc := 2) rw_150_2 (fun _ _ => rfl) (fun l4 => s_cl (pc := 3) rw_150_3 rfl (fun l5 => s_anyL (pc := 4) rw_150_4 (fun _ _ => rfl) (fun l6 => s_cl (pc := 5) rw_150_5 rfl (fun l7 => s_lcmp (pc := 6) rw_150_6 (fun v8 => b_ine (pc := 7) rw_150_7 (A := v8.toInt) rfl (fun h9 => ?_) (fun h9 => ?_)))))))))))
      · refine to_c (pc := 14) rw_150_14 (x := (0 : Int32)) rfl rfl (s_r1 (pc := 15) rw_150_15 (A := 0) rfl (by decide) (b_ieq_t (pc := 18) rw_207_18 (A := 0) rfl (by decide) (s_inc (pc := 61) rw_207_61 (ls2 := fun v => [.ref 77, .int c, .long x, .null, .int v]) rfl rfl (fun _ => rfl) (A := x4.toInt) (B := 1) rfl rfl (by omega) (fun v10 e11 => to_go (pc := 64) rw_207_64 ?_))))
        exact ih N v10 hG F0 (by omega) (by omega) (by omega)
      · refine to_c (pc := 10) rw_150_10 (x := (1 : Int32)) rfl rfl (to_go (pc := 11) rw_150_11 (s_r1 (pc := 15) rw_150_15 (A := 1) rfl (by decide) (b_ieq_f (pc := 18) rw_207_18 (A := 1) rfl (by decide) (to_an (pc := 21) rw_207_21 rfl (s_gR (pc := 22) rw_207_22 hG rfl (v := 96) rfl (to_in (pc := 25) rw_207_25 rfl (s_lal (pc := 26) rw_207_26 hG rfl (n := 30) rfl (A := c.toInt) rfl (by omega) (by omega) (fun l12 => to_an (pc := 27) rw_207_27 rfl (tt_gI (pc := 28) rw_207_28 (g_o hG rfl) (v := (N.2.1 77 41)) rfl (to_in (pc := 31) rw_207_31 rfl (s_any (pc := 32) rw_207_32 (fun _ _ => rfl) (fun v13 => ?_))))))))))))
        refine to_c (pc := 33) rw_207_33 (x := (1 : Int32)) rfl rfl (s_and (pc := 34) rw_207_34 (B := 1) rfl (by omega) (fun v14 e15 _ _ => to_c (pc := 35) rw_207_35 (x := (1 : Int32)) rfl rfl (b_cne (pc := 36) rw_207_36 (A := v14.toInt) (B := 1) rfl rfl (fun h16 => ?_) (fun h16 => ?_))))
        · refine to_i (pc := 51) rw_207_51 rfl (s_s (pc := 53) rw_207_53 (dp0 hd (by decide)) (ls0 := [.long l12, .null, .int x4]) rfl (Nat.le_of_ble_eq_true rfl) (Nat.le_of_ble_eq_true rfl) rfl (to_rcs rfl rfl) rfl (to_ln (pc := 0) rw_150_0 rfl rfl rfl (to_in (pc := 1) rw_150_1 rfl (s_anyS (pc := 2) rw_150_2 (fun _ _ => rfl) (fun l17 => s_cl (pc := 3) rw_150_3 rfl (fun l18 => s_anyL (pc := 4) rw_150_4 (fun _ _ => rfl) (fun l19 => s_cl (pc := 5) rw_150_5 rfl (fun l20 => s_lcmp (pc := 6) rw_150_6 (fun v21 => b_ine (pc := 7) rw_150_7 (A := v21.toInt) rfl (fun h22 => ?_) (fun h22 => ?_))))))))))
          · refine to_c (pc := 14) rw_150_14 (x := (0 : Int32)) rfl rfl (s_r1 (pc := 15) rw_150_15 (A := 0) rfl (by decide) (b_ine_f (pc := 56) rw_207_56 (A := 0) rfl (by decide) (to_c (pc := 59) rw_207_59 (x := (0 : Int32)) rfl rfl (s_r1 (pc := 60) rw_207_60 (A := 0) rfl (by decide) ?_))))
            have k_23 : (0 : Int32).toInt = 0 := rfl
            exact h (0 : Int32) N hG F0 (by decide) (by decide)
          · refine to_c (pc := 10) rw_150_10 (x := (1 : Int32)) rfl rfl (to_go (pc := 11) rw_150_11 (s_r1 (pc := 15) rw_150_15 (A := 1) rfl (by decide) (b_ine_t (pc := 56) rw_207_56 (A := 1) rfl (by decide) (s_inc (pc := 61) rw_207_61 (ls2 := fun v => [.ref 77, .int c, .long x, .null, .int v]) rfl rfl (fun _ => rfl) (A := x4.toInt) (B := 1) rfl rfl (by omega) (fun v24 e25 => to_go (pc := 64) rw_207_64 ?_)))))
            exact ih N v24 hG F0 (by omega) (by omega) (by omega)
        · refine to_an (pc := 39) rw_207_39 rfl (tt_gI (pc := 40) rw_207_40 (g_o hG rfl) (v := (N.2.1 77 11)) rfl (to_c (pc := 43) rw_207_43 (x := (1 : Int32)) rfl rfl (s_sub (pc := 44) rw_207_44 (A := (N.2.1 77 11).toInt) (B := 1) rfl rfl (by omega) (fun v26 e27 => to_i (pc := 45) rw_207_45 rfl (s_sub (pc := 47) rw_207_47 (A := v26.toInt) (B := x4.toInt) rfl rfl (by omega) (fun v28 e29 => to_go (pc := 48) rw_207_48 (s_s (pc := 53) rw_207_53 (dp0 hd (by decide)) (ls0 := [.long l12, .null, .int v28]) rfl (Nat.le_of_ble_eq_true rfl) (Nat.le_of_ble_eq_true rfl) rfl (to_rcs rfl rfl) rfl (to_ln (pc := 0) rw_150_0 rfl rfl rfl (to_in (pc := 1) rw_150_1 rfl (s_anyS (pc := 2) rw_150_2 (fun _ _ => rfl) (fun l30 => s_cl (pc := 3) rw_150_3 rfl (fun l31 => ?_))))))))))))
          refine s_anyL (pc := 4) rw_150_4 (fun _ _ => rfl) (fun l32 => s_cl (pc := 5) rw_150_5 rfl (fun l33 => s_lcmp (pc := 6) rw_150_6 (fun v34 => b_ine (pc := 7) rw_150_7 (A := v34.toInt) rfl (fun h35 => ?_) (fun h35 => ?_))))
          · refine to_c (pc := 14) rw_150_14 (x := (0 : Int32)) rfl rfl (s_r1 (pc := 15) rw_150_15 (A := 0) rfl (by decide) (b_ine_f (pc := 56) rw_207_56 (A := 0) rfl (by decide) (to_c (pc := 59) rw_207_59 (x := (0 : Int32)) rfl rfl (s_r1 (pc := 60) rw_207_60 (A := 0) rfl (by decide) ?_))))
            have k_36 : (0 : Int32).toInt = 0 := rfl
            exact h (0 : Int32) N hG F0 (by decide) (by decide)
          · refine to_c (pc := 10) rw_150_10 (x := (1 : Int32)) rfl rfl (to_go (pc := 11) rw_150_11 (s_r1 (pc := 15) rw_150_15 (A := 1) rfl (by decide) (b_ine_t (pc := 56) rw_207_56 (A := 1) rfl (by decide) (s_inc (pc := 61) rw_207_61 (ls2 := fun v => [.ref 77, .int c, .long x, .null, .int v]) rfl rfl (fun _ => rfl) (A := x4.toInt) (B := 1) rfl rfl (by omega) (fun v37 e38 => to_go (pc := 64) rw_207_64 ?_)))))
            exact ih N v37 hG F0 (by omega) (by omega) (by omega)
set_option maxRecDepth 4000 in
set_option maxHeartbeats 0 in
theorem C_207 {X : mm_X} {d : Nat} {M : mm_M} {Q : Option Value → mm_M → Prop} {c : Int32} {x : Int64} (hX : g_X X) (hd : 1 ≤ d) (hG : g_G M) (q1 : 0 ≤ c.toInt) (q2 : c.toInt ≤ 29) (h : ∀ (r : Int32) (M1 : mm_M), g_G M1 → FR md_0 M M1 → (0 ≤ r.toInt) → (r.toInt ≤ 1) → Q (some (.int r)) M1) : mm_T X d 206 0 [.ref 77, .int c, .long x, .null, .null] [] M Q := by
  have F0 : FR md_0 M M := FR.rf
  refine to_c (pc := 0) rw_207_0 (x := (0 : Int32)) rfl rfl (to_is (pc := 1) rw_207_1 (ls2 := [.ref 77, .int c, .long x, .null, .int (0 : Int32)]) rfl rfl ?_)
  have k_39 : (0 : Int32).toInt = 0 := rfl
  exact (T_207_0 (c := c) (x := x) hX hd q1 q2 h ((60 - (0 : Int32).toInt).toNat + 1)) M (0 : Int32) hG F0 (by omega) (by omega) (by omega)
set_option maxRecDepth 4000 in
set_option maxHeartbeats 0 in
theorem T_208_0 {X : mm_X} {d : Nat} {M : mm_M} {Q : Option Value → mm_M → Prop} {p : Int32} {x : Int64} (hX : g_X X) (hd : 3 ≤ d) (q1 : NJ M) (h : ∀ (r : Int32) (M1 : mm_M), g_G M1 → FR md_k2 M M1 → Q (some (.int r)) M1) : ∀ nn9 : Nat, (∀ (N : mm_M) (x4 : Int32) (x5 : Int32), g_G N → FR md_k2 M N → (0 ≤ x5.toInt) → (x5.toInt ≤ 30) → (0 ≤ p.toInt) → (p.toInt ≤ 5) → 30 - x5.toInt < (nn9 : Int) → mm_T X d 207 28 [.ref 77, .int p, .long x, .null, .int x4, .int x5] [] N Q) := by
  intro nn9
  induction nn9 with
  | zero =>
    intro N x4 x5 hG F0 g1 g2 g3 g4 hm
    exfalso; omega
  | succ nn9 ih =>
    intro N x4 x5 hG F0 g1 g2 g3 g4 hm
    refine to_i (pc := 28) rw_208_28 rfl (to_an (pc := 30) rw_208_30 rfl (s_gR (pc := 31) rw_208_31 hG rfl (v := 100) rfl (to_in (pc := 34) rw_208_34 rfl (s_ial (pc := 35) rw_208_35 hG rfl (n := 6) rfl rfl (A := p.toInt) rfl (by omega) (by omega) (lo := 0) (hi := 30) rfl rfl (fun v1 w_2 _ _ => b_cge (pc := 36) rw_208_36 (A := x5.toInt) (B := v1.toInt) rfl rfl (fun h3 => ?_) (fun h3 => ?_))))))
    · refine to_i (pc := 88) rw_208_88 rfl (to_r0 (pc := 90) rw_208_90 ?_)
      exact h x4 N hG F0 
    · refine to_i (pc := 39) rw_208_39 rfl (to_an (pc := 41) rw_208_41 rfl (to_an (pc := 42) rw_208_42 rfl (s_gR (pc := 43) rw_208_43 hG rfl (v := 99) rfl (to_c (pc := 46) rw_208_46 (x := (30 : Int32)) rfl rfl (to_in (pc := 48) rw_208_48 rfl (s_mul (pc := 49) rw_208_49 (A := 30) (B := p.toInt) rfl rfl (by omega) (fun v4 e5 => to_i (pc := 50) rw_208_50 rfl (s_add (pc := 52) rw_208_52 (A := v4.toInt) (B := x5.toInt) rfl rfl (by omega) (fun v6 e7 => s_ial (pc := 53) rw_208_53 hG rfl (n := 180) rfl rfl (A := v6.toInt) rfl (by omega) (by omega) (lo := 0) (hi := 29) rfl rfl (fun v8 w_9 _ _ => to_ln (pc := 54) rw_208_54 rfl rfl rfl (s_v (pc := 55) rw_208_55 (dp0 hd (by decide)) (ls0 := [.ref 77, .int v8, .long x, .null, .null]) rfl (Nat.le_of_ble_eq_true rfl) (Nat.le_of_ble_eq_true rfl) rfl (to_rc rfl rfl rfl (g_o hG rfl)) rfl ?_)))))))))))
      refine C_207 hX (dp1 hd (by decide)) hG (by omega) (by omega) (c := v8) (x := x) (fun r10 M15 hG12 F11 p_13 p_14 => ?_)
      have F16 := FR.c F0 F11 tg_264
      refine b_ieq (pc := 58) rw_208_58 (A := r10.toInt) rfl (fun h17 => ?_) (fun h17 => ?_)
      · refine to_c (pc := 78) rw_208_78 (x := (0 : Int32)) rfl rfl (s_any (pc := 79) rw_208_79 (fun _ _ => rfl) (fun v18 => to_is (pc := 80) rw_208_80 (ls2 := [.ref 77, .int p, .long x, .null, .int v18, .int x5]) rfl rfl (s_inc (pc := 82) rw_208_82 (ls2 := fun v => [.ref 77, .int p, .long x, .null, .int v18, .int v]) rfl rfl (fun _ => rfl) (A := x5.toInt) (B := 1) rfl rfl (by omega) (fun v19 e20 => to_go (pc := 85) rw_208_85 ?_))))
        exact ih M15 v18 v19 hG12 F16 (by omega) (by omega) (by omega) (by omega) (by omega)
      · refine to_c (pc := 61) rw_208_61 (x := (1 : Int32)) rfl rfl (to_an (pc := 62) rw_208_62 rfl (s_gR (pc := 63) rw_208_63 hG12 rfl (v := 99) rfl (to_c (pc := 66) rw_208_66 (x := (30 : Int32)) rfl rfl (to_in (pc := 68) rw_208_68 rfl (s_mul (pc := 69) rw_208_69 (A := 30) (B := p.toInt) rfl rfl (by omega) (fun v21 e22 => to_i (pc := 70) rw_208_70 rfl (s_add (pc := 72) rw_208_72 (A := v21.toInt) (B := x5.toInt) rfl rfl (by omega) (fun v23 e24 => s_ial (pc := 73) rw_208_73 hG12 rfl (n := 180) rfl rfl (A := v23.toInt) rfl (by omega) (by omega) (lo := 0) (hi := 29) rfl rfl (fun v25 w_26 _ _ => s_any (pc := 74) rw_208_74 (fun _ _ => rfl) (fun v27 => to_go (pc := 75) rw_208_75 (s_any (pc := 79) rw_208_79 (fun _ _ => rfl) (fun v28 => ?_))))))))))))
        refine to_is (pc := 80) rw_208_80 (ls2 := [.ref 77, .int p, .long x, .null, .int v28, .int x5]) rfl rfl (s_inc (pc := 82) rw_208_82 (ls2 := fun v => [.ref 77, .int p, .long x, .null, .int v28, .int v]) rfl rfl (fun _ => rfl) (A := x5.toInt) (B := 1) rfl rfl (by omega) (fun v29 e30 => to_go (pc := 85) rw_208_85 ?_))
        exact ih M15 v28 v29 hG12 F16 (by omega) (by omega) (by omega) (by omega) (by omega)
set_option maxRecDepth 4000 in
set_option maxHeartbeats 0 in
theorem C_208 {X : mm_X} {d : Nat} {M : mm_M} {Q : Option Value → mm_M → Prop} {p : Int32} {x : Int64} (hX : g_X X) (hd : 3 ≤ d) (hG : g_G M) (q1 : NJ M) (h : ∀ (r : Int32) (M1 : mm_M), g_G M1 → FR md_k2 M M1 → Q (some (.int r)) M1) : mm_T X d 207 0 [.ref 77, .int p, .long x, .null, .null, .null] [] M Q := by
  have F0 : FR md_k2 M M := FR.rf
  refine to_an (pc := 0) rw_208_0 rfl (to_c (pc := 1) rw_208_1 (x := (0 : Int32)) rfl rfl (s_pI (pc := 2) rw_208_2 hG rfl (fun M32 W31 => ?_)))
  have hG33 := g_wf hG W31 rfl rfl (by decide)
  have F34 := FR.w F0 W31 (show 77 = 77 ∧ 2 = 2 ∨ 94 ≤ 77 ∧ 77 ≤ 98 by decide)
  refine to_in (pc := 5) rw_208_5 rfl (s_s (pc := 6) rw_208_6 (dp0 hd (by decide)) (ls0 := [.int p]) rfl (Nat.le_of_ble_eq_true rfl) (Nat.le_of_ble_eq_true rfl) rfl (to_rcs rfl rfl) rfl (to_in (pc := 0) rw_205_0 rfl (b_ilt (pc := 1) rw_205_1 (A := p.toInt) rfl (fun h35 => ?_) (fun h35 => ?_))))
  · refine to_c (pc := 14) rw_205_14 (x := (0 : Int32)) rfl rfl (s_r1 (pc := 15) rw_205_15 (A := 0) rfl (by decide) (b_ine_f (pc := 9) rw_208_9 (A := 0) rfl (by decide) (to_c (pc := 12) rw_208_12 (x := (-1 : Int32)) rfl rfl (to_r0 (pc := 13) rw_208_13 ?_))))
    have k_36 : (-1 : Int32).toInt = -1 := rfl
    exact h (-1 : Int32) M32 hG33 F34 
  · refine to_in (pc := 4) rw_205_4 rfl (to_c (pc := 5) rw_205_5 (x := (6 : Int32)) rfl rfl (b_cge (pc := 7) rw_205_7 (A := p.toInt) (B := 6) rfl rfl (fun h37 => ?_) (fun h37 => ?_)))
    · refine to_c (pc := 14) rw_205_14 (x := (0 : Int32)) rfl rfl (s_r1 (pc := 15) rw_205_15 (A := 0) rfl (by decide) (b_ine_f (pc := 9) rw_208_9 (A := 0) rfl (by decide) (to_c (pc := 12) rw_208_12 (x := (-1 : Int32)) rfl rfl (to_r0 (pc := 13) rw_208_13 ?_))))
      have k_38 : (-1 : Int32).toInt = -1 := rfl
      exact h (-1 : Int32) M32 hG33 F34 
    · refine to_c (pc := 10) rw_205_10 (x := (1 : Int32)) rfl rfl (to_go (pc := 11) rw_205_11 (s_r1 (pc := 15) rw_205_15 (A := 1) rfl (by decide) (b_ine_t (pc := 9) rw_208_9 (A := 1) rfl (by decide) (to_an (pc := 14) rw_208_14 rfl (to_an (pc := 15) rw_208_15 rfl ?_)))))
      have c_39 : M32.2.1 77 29 = (M.2.1 77 29) := (W_n W31 (by decide) rfl)
      have b_40 := g_b hG (a := 77) (i := 29) (lo := 0) (hi := 150) rfl rfl
      refine tt_gI (pc := 16) rw_208_16 (g_o hG33 rfl) (v := (M.2.1 77 29)) c_39 (s_v (pc := 19) rw_208_19 (dp0 hd (by decide)) (ls0 := [.ref 77, .int (M.2.1 77 29), .null, .null]) rfl (Nat.le_of_ble_eq_true rfl) (Nat.le_of_ble_eq_true rfl) rfl (to_rc rfl rfl rfl (g_o hG33 rfl)) rfl ?_)
      have t_41 : (M32.2.1 77 29).toInt = (M.2.1 77 29).toInt := congrArg Int32.toInt c_39
      have j_42 := (NJ_f (fun a i z => W_n W31 (by /-r77,2-/ omega) rfl) q1)
      refine C_189 hX (dp1 hd (by decide)) hG33 (by omega) (by omega) (by omega) j_42 (n := (M.2.1 77 29)) (fun M45 hG44 F43 => ?_)
      have F46 := FR.c F34 F43 tg_263
      refine to_c (pc := 22) rw_208_22 (x := (0 : Int32)) rfl rfl (to_is (pc := 23) rw_208_23 (ls2 := [.ref 77, .int p, .long x, .null, .int (0 : Int32), .null]) rfl rfl (to_c (pc := 25) rw_208_25 (x := (0 : Int32)) rfl rfl (to_is (pc := 26) rw_208_26 (ls2 := [.ref 77, .int p, .long x, .null, .int (0 : Int32), .int (0 : Int32)]) rfl rfl ?_)))
      have k_47 : (0 : Int32).toInt = 0 := rfl
      exact (T_208_0 (p := p) (x := x) hX hd q1 h ((30 - (0 : Int32).toInt).toNat + 1)) M45 (0 : Int32) (0 : Int32) hG44 F46 (by omega) (by omega) (by omega) (by omega) (by omega)
set_option maxRecDepth 4000 in
set_option maxHeartbeats 0 in
theorem C_246 {X : mm_X} {d : Nat} {M : mm_M} {Q : Option Value → mm_M → Prop} {w : Int32} (hX : g_X X) (hd : 0 ≤ d) (hG : g_G M) (h : ∀ (r : Int32) (M1 : mm_M), g_G M1 → FR md_2 M M1 → Q (some (.int r)) M1) : mm_T X d 245 0 [.ref 77, .int w] [] M Q := by
  have F0 : FR md_2 M M := FR.rf
  refine to_an (pc := 0) rw_246_0 rfl (to_c (pc := 1) rw_246_1 (x := (0 : Int32)) rfl rfl (s_pI (pc := 2) rw_246_2 hG rfl (fun M2 W1 => ?_)))
  have hG3 := g_wf hG W1 rfl rfl (by decide)
  have F4 := FR.w F0 W1 (show 77 = 77 ∧ 2 = 2 by decide)
  refine to_in (pc := 5) rw_246_5 rfl ?_
  rcases (show w.toInt = 0 ∨ w.toInt = 1 ∨ w.toInt = 2 ∨ w.toInt = 3 ∨ w.toInt = 4 ∨ w.toInt = 5 ∨ w.toInt = 6 ∨ w.toInt = 7 ∨ (w.toInt < 0 ∨ 7 < w.toInt) by omega) with h5 | h5 | h5 | h5 | h5 | h5 | h5 | h5 | h5
  · refine s_sw (pc := 6) rw_246_6 (A := w.toInt) (k := 0) (t := 52) rfl h5 (by decide) rfl (to_an (pc := 52) rw_246_52 rfl ?_)
    have c_6 : M2.2.1 77 11 = (M.2.1 77 11) := (W_n W1 (by decide) rfl)
    have b_7 := g_b hG (a := 77) (i := 11) (lo := 10) (hi := 60) rfl rfl
    refine tt_gI (pc := 53) rw_246_53 (g_o hG3 rfl) (v := (M.2.1 77 11)) c_6 (to_r0 (pc := 56) rw_246_56 ?_)
    exact h (M.2.1 77 11) M2 hG3 F4 
  · refine s_sw (pc := 6) rw_246_6 (A := w.toInt) (k := 1) (t := 57) rfl h5 (by decide) rfl (to_an (pc := 57) rw_246_57 rfl ?_)
    have c_8 : M2.2.1 77 12 = (M.2.1 77 12) := (W_n W1 (by decide) rfl)
    have b_9 := g_b hG (a := 77) (i := 12) (lo := 0) (hi := 8) rfl rfl
    refine tt_gI (pc := 58) rw_246_58 (g_o hG3 rfl) (v := (M.2.1 77 12)) c_8 (to_r0 (pc := 61) rw_246_61 ?_)
    exact h (M.2.1 77 12) M2 hG3 F4 
  · refine s_sw (pc := 6) rw_246_6 (A := w.toInt) (k := 2) (t := 62) rfl h5 (by decide) rfl (to_an (pc := 62) rw_246_62 rfl ?_)
    have c_10 : M2.2.1 77 13 = (M.2.1 77 13) := (W_n W1 (by decide) rfl)
    have b_11 := g_b hG (a := 77) (i := 13) (lo := 0) (hi := 12) rfl rfl
    refine tt_gI (pc := 63) rw_246_63 (g_o hG3 rfl) (v := (M.2.1 77 13)) c_10 (to_r0 (pc := 66) rw_246_66 ?_)
    exact h (M.2.1 77 13) M2 hG3 F4 
  · refine s_sw (pc := 6) rw_246_6 (A := w.toInt) (k := 3) (t := 67) rfl h5 (by decide) rfl (to_an (pc := 67) rw_246_67 rfl ?_)
    have c_12 : M2.2.1 77 28 = (M.2.1 77 28) := (W_n W1 (by decide) rfl)
    have b_13 := g_b hG (a := 77) (i := 28) (lo := 0) (hi := 30) rfl rfl
    refine tt_gI (pc := 68) rw_246_68 (g_o hG3 rfl) (v := (M.2.1 77 28)) c_12 (to_r0 (pc := 71) rw_246_71 ?_)
    exact h (M.2.1 77 28) M2 hG3 F4 
  · refine s_sw (pc := 6) rw_246_6 (A := w.toInt) (k := 4) (t := 72) rfl h5 (by decide) rfl (to_an (pc := 72) rw_246_72 rfl ?_)
    have c_14 : M2.2.1 77 29 = (M.2.1 77 29) := (W_n W1 (by decide) rfl)
    have b_15 := g_b hG (a := 77) (i := 29) (lo := 0) (hi := 150) rfl rfl
    refine tt_gI (pc := 73) rw_246_73 (g_o hG3 rfl) (v := (M.2.1 77 29)) c_14 (to_r0 (pc := 76) rw_246_76 ?_)
    exact h (M.2.1 77 29) M2 hG3 F4 
  · refine s_sw (pc := 6) rw_246_6 (A := w.toInt) (k := 5) (t := 77) rfl h5 (by decide) rfl (to_an (pc := 77) rw_246_77 rfl ?_)
    have c_16 : M2.2.1 77 58 = (M.2.1 77 58) := (W_n W1 (by decide) rfl)
    have b_17 := g_b hG (a := 77) (i := 58) (lo := 0) (hi := 40) rfl rfl
    refine tt_gI (pc := 78) rw_246_78 (g_o hG3 rfl) (v := (M.2.1 77 58)) c_16 (to_r0 (pc := 81) rw_246_81 ?_)
    exact h (M.2.1 77 58) M2 hG3 F4 
  · refine s_sw (pc := 6) rw_246_6 (A := w.toInt) (k := 6) (t := 82) rfl h5 (by decide) rfl (to_an (pc := 82) rw_246_82 rfl ?_)
    have c_18 : M2.2.1 77 42 = (M.2.1 77 42) := (W_n W1 (by decide) rfl)
    refine tt_gI (pc := 83) rw_246_83 (g_o hG3 rfl) (v := (M.2.1 77 42)) c_18 (to_r0 (pc := 86) rw_246_86 ?_)
    exact h (M.2.1 77 42) M2 hG3 F4 
  · refine s_sw (pc := 6) rw_246_6 (A := w.toInt) (k := 7) (t := 87) rfl h5 (by decide) rfl (to_an (pc := 87) rw_246_87 rfl ?_)
    have c_19 : M2.2.1 77 43 = (M.2.1 77 43) := (W_n W1 (by decide) rfl)
    have b_20 := g_b hG (a := 77) (i := 43) (lo := 0) (hi := 3000) rfl rfl
    refine tt_gI (pc := 88) rw_246_88 (g_o hG3 rfl) (v := (M.2.1 77 43)) c_19 (to_r0 (pc := 91) rw_246_91 ?_)
    exact h (M.2.1 77 43) M2 hG3 F4 
  · refine s_swd (pc := 6) rw_246_6 (A := w.toInt) rfl h5 (to_c (pc := 92) rw_246_92 (x := (-1 : Int32)) rfl rfl (to_r0 (pc := 93) rw_246_93 ?_))
    have k_21 : (-1 : Int32).toInt = -1 := rfl
    exact h (-1 : Int32) M2 hG3 F4 
