set_option maxRecDepth 4000 in
set_option maxHeartbeats 0 in
theorem U_234_0 {X : mm_X} {d : Nat} {M : mm_M} {Q : Option Value → mm_M → Prop} {w : Int32} {x : Int64} {sg : x_S} {ca : Int} {K : x_Kn} (hX : g_X X) (hd : 1 ≤ d) (q1 : 0 ≤ w.toInt) (q2 : w.toInt ≤ 11) (q3 : ca ≤ 30) (q4 : (M.2.1 77 28).toInt = ca) (q5 : KST M 96 98 97 95 ca sg K) (h : ∀ (r : Int32) (M1 : mm_M), g_G M1 → FR md_0 M M1 → (r.toInt = x_fl9 K w.toInt x ca.toNat 0 0) → Q (some (.int r)) M1) : ∀ nn9 : Nat, (∀ (N : mm_M) (x4 : Int32) (x5 : Int32), g_G N → FR md_0 M N → (0 ≤ x5.toInt) → (x5.toInt ≤ 30) → (x5.toInt ≤ ca) → (0 ≤ x4.toInt) → (x4.toInt ≤ 30) → (x4.toInt ≤ x5.toInt) → ((N.2.1 77 28).toInt = ca) → (KST N 96 98 97 95 ca sg K) → (x_fl9 K w.toInt x (ca - x5.toInt).toNat (x5.toInt).toNat x4.toInt = x_fl9 K w.toInt x ca.toNat 0 0) → 30 - x5.toInt < (nn9 : Int) → mm_T X d 233 6 [.ref 77, .int w, .long x, .null, .int x4, .int x5] [] N Q) := by
  intro nn9
  induction nn9 with
  | zero =>
    intro N x4 x5 hG F0 g1 g2 g3 g4 g5 g6 g7 g8 g9 hm
    have b_1 := g_b hG (a := 77) (i := 28) (lo := 0) (hi := 30) rfl rfl
    exfalso; omega
  | succ nn9 ih =>
    intro N x4 x5 hG F0 g1 g2 g3 g4 g5 g6 g7 g8 g9 hm
    have b_2 := g_b hG (a := 77) (i := 28) (lo := 0) (hi := 30) rfl rfl
    refine to_i (pc := 6) rw_234_6 rfl (to_an (pc := 8) rw_234_8 rfl (tt_gI (pc := 9) rw_234_9 (g_o hG rfl) (v := (N.2.1 77 28)) rfl (b_cge (pc := 12) rw_234_12 (A := x5.toInt) (B := (N.2.1 77 28).toInt) rfl rfl (fun h3 => ?_) (fun h3 => ?_))))
    · refine to_i (pc := 59) rw_234_59 rfl (to_r0 (pc := 61) rw_234_61 ?_)
      have z_4 := x_fl_x (by omega) g9
      exact h x4 N hG F0 (by omega)
    · refine to_i (pc := 15) rw_234_15 rfl (to_an (pc := 17) rw_234_17 rfl (to_i (pc := 18) rw_234_18 rfl (to_in (pc := 20) rw_234_20 rfl (s_v (pc := 21) rw_234_21 (dp0 hd (by decide)) (ls0 := [.ref 77, .int x5, .int w]) rfl (Nat.le_of_ble_eq_true rfl) (Nat.le_of_ble_eq_true rfl) rfl (to_rc rfl rfl rfl (g_o hG rfl)) rfl (to_an (pc := 0) rw_231_0 rfl (s_gR (pc := 1) rw_231_1 hG rfl (v := 98) rfl (to_in (pc := 4) rw_231_4 rfl (s_ial (pc := 5) rw_231_5 hG rfl (n := 30) rfl rfl (A := x5.toInt) rfl (by omega) (by omega) (lo := -2147483648) (hi := 2147483647) rfl rfl (fun v5 w_6 _ _ => ?_)))))))))
      have z_7 : v5 = K.2.1 (x5.toInt).toNat := KST_lw (K := K) g8 (by omega) (by omega) w_6
      refine to_in (pc := 6) rw_231_6 rfl (s_opE (pc := 7) rw_231_7 (w := v5 >>> w) rfl (fun v8 e9 => to_c (pc := 8) rw_231_8 (x := (1 : Int32)) rfl rfl (s_and (pc := 9) rw_231_9 (B := 1) rfl (by omega) (fun v10 e11 _ _ => ?_))))
      have z_12 : x_hw K (x5.toInt).toNat w.toInt = v10.toInt := x_hw_e z_7 rfl e9 e11
      refine to_c (pc := 10) rw_231_10 (x := (1 : Int32)) rfl rfl (b_cne (pc := 11) rw_231_11 (A := v10.toInt) (B := 1) rfl rfl (fun h13 => ?_) (fun h13 => ?_))
      · refine to_c (pc := 18) rw_231_18 (x := (0 : Int32)) rfl rfl (s_r1 (pc := 19) rw_231_19 (A := 0) rfl (by decide) (b_ine_f (pc := 24) rw_234_24 (A := 0) rfl (by decide) (to_ln (pc := 27) rw_234_27 rfl rfl rfl (to_an (pc := 28) rw_234_28 rfl (s_gR (pc := 29) rw_234_29 hG rfl (v := 96) rfl (to_i (pc := 32) rw_234_32 rfl (s_lalE (pc := 34) rw_234_34 hG rfl (n := 30) rfl (A := x5.toInt) rfl (by omega) (by omega) (fun l14 w_15 => ?_))))))))
        have z_16 : l14 = K.1 (x5.toInt).toNat := KST_lc (K := K) g8 (by omega) (by omega) w_15
        refine to_cl (pc := 35) rw_234_35 rfl (x := (-1 : Int64)) rfl (to_2l (pc := 38) rw_234_38 (v := (l14 ^^^ (-1 : Int64))) rfl (to_2l (pc := 39) rw_234_39 (v := (x &&& (l14 ^^^ (-1 : Int64)))) rfl (to_cl (pc := 40) rw_234_40 rfl (x := (0 : Int64)) rfl (s_lcmpE (pc := 41) rw_234_41 (fun v17 e18 => ?_)))))
        have b_19 := x_eq_b (x := (x &&& (l14 ^^^ (-1 : Int64)))) (y := (0 : Int64))
        have z_20 : x_eq (x &&& (l14 ^^^ (-1 : Int64))) (0 : Int64) = x_eq (K.1 (x5.toInt).toNat &&& x) x := by rw [x_dr_r, z_16]
        refine b_ine (pc := 42) rw_234_42 (A := v17.toInt) rfl (fun h21 => ?_) (fun h21 => ?_)
        · refine to_c (pc := 49) rw_234_49 (x := (0 : Int32)) rfl rfl (s_add (pc := 50) rw_234_50 (A := x4.toInt) (B := 0) rfl rfl (by omega) (fun v22 e23 => to_is (pc := 51) rw_234_51 (ls2 := [.ref 77, .int w, .long x, .null, .int v22, .int x5]) rfl rfl (s_inc (pc := 53) rw_234_53 (ls2 := fun v => [.ref 77, .int w, .long x, .null, .int v22, .int v]) rfl rfl (fun _ => rfl) (A := x5.toInt) (B := 1) rfl rfl (by omega) (fun v24 e25 => to_go (pc := 56) rw_234_56 ?_))))
          exact ih N v22 v24 hG F0 (by omega) (by omega) (by omega) (by omega) (by omega) (by omega) (by omega) g8 (x_fl_s (c := x5.toInt) (by omega) (by omega) (by omega) g9 (by first | (rw [if_pos ⟨by omega, by omega⟩] <;> omega) | (rw [if_neg (by omega)] <;> omega))) (by omega)
        · refine to_c (pc := 45) rw_234_45 (x := (1 : Int32)) rfl rfl (to_go (pc := 46) rw_234_46 (s_add (pc := 50) rw_234_50 (A := x4.toInt) (B := 1) rfl rfl (by omega) (fun v26 e27 => to_is (pc := 51) rw_234_51 (ls2 := [.ref 77, .int w, .long x, .null, .int v26, .int x5]) rfl rfl (s_inc (pc := 53) rw_234_53 (ls2 := fun v => [.ref 77, .int w, .long x, .null, .int v26, .int v]) rfl rfl (fun _ => rfl) (A := x5.toInt) (B := 1) rfl rfl (by omega) (fun v28 e29 => to_go (pc := 56) rw_234_56 ?_)))))
          exact ih N v26 v28 hG F0 (by omega) (by omega) (by omega) (by omega) (by omega) (by omega) (by omega) g8 (x_fl_s (c := x5.toInt) (by omega) (by omega) (by omega) g9 (by first | (rw [if_pos ⟨by omega, by omega⟩] <;> omega) | (rw [if_neg (by omega)] <;> omega))) (by omega)
      · refine to_c (pc := 14) rw_231_14 (x := (1 : Int32)) rfl rfl (to_go (pc := 15) rw_231_15 (s_r1 (pc := 19) rw_231_19 (A := 1) rfl (by decide) (b_ine_t (pc := 24) rw_234_24 (A := 1) rfl (by decide) (to_c (pc := 49) rw_234_49 (x := (0 : Int32)) rfl rfl (s_add (pc := 50) rw_234_50 (A := x4.toInt) (B := 0) rfl rfl (by omega) (fun v30 e31 => to_is (pc := 51) rw_234_51 (ls2 := [.ref 77, .int w, .long x, .null, .int v30, .int x5]) rfl rfl (s_inc (pc := 53) rw_234_53 (ls2 := fun v => [.ref 77, .int w, .long x, .null, .int v30, .int v]) rfl rfl (fun _ => rfl) (A := x5.toInt) (B := 1) rfl rfl (by omega) (fun v32 e33 => to_go (pc := 56) rw_234_56 ?_))))))))
        exact ih N v30 v32 hG F0 (by omega) (by omega) (by omega) (by omega) (by omega) (by omega) (by omega) g8 (x_fl_s (c := x5.toInt) (by omega) (by omega) (by omega) g9 (by first | (rw [if_pos ⟨by omega, by omega⟩] <;> omega) | (rw [if_neg (by omega)] <;> omega))) (by omega)
set_option maxRecDepth 4000 in
set_option maxHeartbeats 0 in
theorem E_234 {X : mm_X} {d : Nat} {M : mm_M} {Q : Option Value → mm_M → Prop} {w : Int32} {x : Int64} {sg : x_S} {ca : Int} {K : x_Kn} (hX : g_X X) (hd : 1 ≤ d) (hG : g_G M) (q1 : 0 ≤ w.toInt) (q2 : w.toInt ≤ 11) (q3 : ca ≤ 30) (q4 : (M.2.1 77 28).toInt = ca) (q5 : KST M 96 98 97 95 ca sg K) (h : ∀ (r : Int32) (M1 : mm_M), g_G M1 → FR md_0 M M1 → (r.toInt = x_fl9 K w.toInt x ca.toNat 0 0) → Q (some (.int r)) M1) : mm_T X d 233 0 [.ref 77, .int w, .long x, .null, .null, .null] [] M Q := by
  have F0 : FR md_0 M M := FR.rf
  have b_34 := g_b hG (a := 77) (i := 28) (lo := 0) (hi := 30) rfl rfl
  refine to_c (pc := 0) rw_234_0 (x := (0 : Int32)) rfl rfl (to_is (pc := 1) rw_234_1 (ls2 := [.ref 77, .int w, .long x, .null, .int (0 : Int32), .null]) rfl rfl (to_c (pc := 3) rw_234_3 (x := (0 : Int32)) rfl rfl (to_is (pc := 4) rw_234_4 (ls2 := [.ref 77, .int w, .long x, .null, .int (0 : Int32), .int (0 : Int32)]) rfl rfl ?_)))
  have k_35 : (0 : Int32).toInt = 0 := rfl
  exact (U_234_0 (w := w) (x := x) (sg := sg) (ca := ca) (K := K) hX hd q1 q2 q3 q4 q5 h ((30 - (0 : Int32).toInt).toNat + 1)) M (0 : Int32) (0 : Int32) hG F0 (by omega) (by omega) (by omega) (by omega) (by omega) (by omega) (by omega) q5 (x_fl_0 (by omega) (by omega)) (by omega)
set_option maxRecDepth 4000 in
set_option maxHeartbeats 0 in
theorem E_235 {X : mm_X} {d : Nat} {M : mm_M} {Q : Option Value → mm_M → Prop} {n : Int32} {w : Int32} {sg : x_S} {NN : x_N} {nz : Int} {ca : Int} (hX : g_X X) (hd : 3 ≤ d) (hG : g_G M) (q1 : x_vn sg ca NN nz) (q2 : ca ≤ 30) (q3 : (M.2.1 77 29).toInt = nz) (q4 : (M.2.1 77 28).toInt = ca) (q5 : CWk M sg) (q6 : FA M) (q7 : PLk M sg) (q8 : W8 M) (q9 : NTr M NN nz) (h : ∀ (r : Int32) (M1 : mm_M), g_G M1 → FR md_k2 M M1 → (r.toInt = x_falsely sg NN nz ca n.toInt w.toInt) → Q (some (.int r)) M1) : mm_T X d 234 0 [.ref 77, .int n, .int w] [] M Q := by
  have F0 : FR md_k2 M M := FR.rf
  have b_1 := g_b hG (a := 77) (i := 29) (lo := 0) (hi := 150) rfl rfl
  have b_2 := g_b hG (a := 77) (i := 28) (lo := 0) (hi := 30) rfl rfl
  have z_3 := q7.2.1
  have z_4 := q7.2.2.1
  have z_5 := q7.2.2.2.1
  have z_6 := q7.1
  have z_7 := z_6.1
  have z_8 := z_6.2.1
  have z_9 := z_6.2.2.1
  have z_10 := z_6.2.2.2.1
  have z_11 := z_6.2.2.2.2.1
  have z_12 := z_6.2.2.2.2.2.1
  have b_13 := g_b hG (a := 77) (i := 11) (lo := 10) (hi := 60) rfl rfl
  have b_14 := g_b hG (a := 77) (i := 12) (lo := 0) (hi := 8) rfl rfl
  have b_15 := g_b hG (a := 77) (i := 13) (lo := 0) (hi := 12) rfl rfl
  refine to_an (pc := 0) rw_235_0 rfl (to_c (pc := 1) rw_235_1 (x := (0 : Int32)) rfl rfl (s_pI (pc := 2) rw_235_2 hG rfl (fun M17 W16 => ?_)))
  have hG18 := g_wf hG W16 rfl rfl (by decide)
  have F19 := FR.w F0 W16 (show 77 = 77 ∧ 2 = 2 ∨ 94 ≤ 77 ∧ 77 ≤ 98 by decide)
  refine to_an (pc := 5) rw_235_5 rfl (to_in (pc := 6) rw_235_6 rfl (s_v (pc := 7) rw_235_7 (dp0 hd (by decide)) (ls0 := [.ref 77, .int n]) rfl (Nat.le_of_ble_eq_true rfl) (Nat.le_of_ble_eq_true rfl) rfl (to_rc rfl rfl rfl (g_o hG18 rfl)) rfl (to_in (pc := 0) rw_186_0 rfl (b_ilt (pc := 1) rw_186_1 (A := n.toInt) rfl (fun h20 => ?_) (fun h20 => ?_)))))
  · refine to_c (pc := 16) rw_186_16 (x := (0 : Int32)) rfl rfl (s_r1 (pc := 17) rw_186_17 (A := 0) rfl (by decide) (b_ieq_t (pc := 10) rw_235_10 (A := 0) rfl (by decide) (to_c (pc := 21) rw_235_21 (x := (-1 : Int32)) rfl rfl (to_r0 (pc := 22) rw_235_22 ?_))))
    have k_21 : (-1 : Int32).toInt = -1 := rfl
    have z_22 := x_falsely_n (s := sg) (N := NN) (sz := nz) (ca := ca) (n := n.toInt) (w := w.toInt) (by omega)
    exact h (-1 : Int32) M17 hG18 F19 (by omega)
  · refine to_in (pc := 4) rw_186_4 rfl (to_an (pc := 5) rw_186_5 rfl ?_)
    have c_23 : M17.2.1 77 29 = (M.2.1 77 29) := (W_n W16 (by decide) rfl)
    refine tt_gI (pc := 6) rw_186_6 (g_o hG18 rfl) (v := (M.2.1 77 29)) c_23 (b_cgt (pc := 9) rw_186_9 (A := n.toInt) (B := (M.2.1 77 29).toInt) rfl rfl (fun h24 => ?_) (fun h24 => ?_))
    · refine to_c (pc := 16) rw_186_16 (x := (0 : Int32)) rfl rfl (s_r1 (pc := 17) rw_186_17 (A := 0) rfl (by decide) (b_ieq_t (pc := 10) rw_235_10 (A := 0) rfl (by decide) (to_c (pc := 21) rw_235_21 (x := (-1 : Int32)) rfl rfl (to_r0 (pc := 22) rw_235_22 ?_))))
      have k_25 : (-1 : Int32).toInt = -1 := rfl
      have z_26 := x_falsely_n (s := sg) (N := NN) (sz := nz) (ca := ca) (n := n.toInt) (w := w.toInt) (by omega)
      exact h (-1 : Int32) M17 hG18 F19 (by omega)
    · refine to_c (pc := 12) rw_186_12 (x := (1 : Int32)) rfl rfl (to_go (pc := 13) rw_186_13 (s_r1 (pc := 17) rw_186_17 (A := 1) rfl (by decide) (b_ieq_f (pc := 10) rw_235_10 (A := 1) rfl (by decide) (to_an (pc := 13) rw_235_13 rfl (to_in (pc := 14) rw_235_14 rfl (s_v (pc := 15) rw_235_15 (dp0 hd (by decide)) (ls0 := [.ref 77, .int w]) rfl (Nat.le_of_ble_eq_true rfl) (Nat.le_of_ble_eq_true rfl) rfl (to_rc rfl rfl rfl (g_o hG18 rfl)) rfl (to_in (pc := 0) rw_180_0 rfl (b_ilt (pc := 1) rw_180_1 (A := w.toInt) rfl (fun h27 => ?_) (fun h27 => ?_)))))))))
      · refine to_c (pc := 16) rw_180_16 (x := (0 : Int32)) rfl rfl (s_r1 (pc := 17) rw_180_17 (A := 0) rfl (by decide) (b_ine_f (pc := 18) rw_235_18 (A := 0) rfl (by decide) (to_c (pc := 21) rw_235_21 (x := (-1 : Int32)) rfl rfl (to_r0 (pc := 22) rw_235_22 ?_))))
        have k_28 : (-1 : Int32).toInt = -1 := rfl
        have z_29 := x_falsely_n (s := sg) (N := NN) (sz := nz) (ca := ca) (n := n.toInt) (w := w.toInt) (by omega)
        exact h (-1 : Int32) M17 hG18 F19 (by omega)
      · refine to_in (pc := 4) rw_180_4 rfl (to_an (pc := 5) rw_180_5 rfl ?_)
        have c_30 : M17.2.1 77 13 = (M.2.1 77 13) := (W_n W16 (by decide) rfl)
        refine tt_gI (pc := 6) rw_180_6 (g_o hG18 rfl) (v := (M.2.1 77 13)) c_30 (b_cge (pc := 9) rw_180_9 (A := w.toInt) (B := (M.2.1 77 13).toInt) rfl rfl (fun h31 => ?_) (fun h31 => ?_))
        · refine to_c (pc := 16) rw_180_16 (x := (0 : Int32)) rfl rfl (s_r1 (pc := 17) rw_180_17 (A := 0) rfl (by decide) (b_ine_f (pc := 18) rw_235_18 (A := 0) rfl (by decide) (to_c (pc := 21) rw_235_21 (x := (-1 : Int32)) rfl rfl (to_r0 (pc := 22) rw_235_22 ?_))))
          have k_32 : (-1 : Int32).toInt = -1 := rfl
          have z_33 := x_falsely_n (s := sg) (N := NN) (sz := nz) (ca := ca) (n := n.toInt) (w := w.toInt) (by omega)
          exact h (-1 : Int32) M17 hG18 F19 (by omega)
        · refine to_c (pc := 12) rw_180_12 (x := (1 : Int32)) rfl rfl (to_go (pc := 13) rw_180_13 (s_r1 (pc := 17) rw_180_17 (A := 1) rfl (by decide) (b_ine_t (pc := 18) rw_235_18 (A := 1) rfl (by decide) (to_an (pc := 23) rw_235_23 rfl (to_in (pc := 24) rw_235_24 rfl (s_v (pc := 25) rw_235_25 (dp0 hd (by decide)) (ls0 := [.ref 77, .int n, .null, .null]) rfl (Nat.le_of_ble_eq_true rfl) (Nat.le_of_ble_eq_true rfl) rfl (to_rc rfl rfl rfl (g_o hG18 rfl)) rfl ?_))))))
          have c_34 : M17.2.1 77 28 = (M.2.1 77 28) := (W_n W16 (by decide) rfl)
          have t_35 : (M17.2.1 77 28).toInt = (M.2.1 77 28).toInt := congrArg Int32.toInt c_34
          have j_36 := (CWk_f (fun k hk9 => W_j W16 rfl) q5)
          have j_37 := (FA_f (fun a i z => W_n W16 (tg_94 a i z) rfl) q6)
          have j_38 := (PLk_f (fun a i z => W_n W16 (tg_91 a i z) rfl) q7)
          have j_39 := (W8_f (fun a i z => W_n W16 (tg_95 a i z) rfl) q8)
          have j_40 := (NTr_f (fun a i z => W_n W16 (tg_135 a i z) rfl) q9)
          refine E_189 hX (dp1 hd (by decide)) hG18 (by omega) (by omega) (by omega) q1 (by omega) (by omega) j_36 j_37 j_38 j_39 j_40 (n := n) (sg := sg) (NN := NN) (nz := nz) (ca := ca) (fun M44 hG42 F41 p_43 => ?_)
          have F45 := FR.c F19 F41 tg_134
          refine to_an (pc := 28) rw_235_28 rfl (to_in (pc := 29) rw_235_29 rfl (to_an (pc := 30) rw_235_30 rfl (s_gR (pc := 31) rw_235_31 hG42 rfl (v := 95) rfl (to_in (pc := 34) rw_235_34 rfl (s_lalE (pc := 35) rw_235_35 hG42 rfl (n := 12) rfl (A := w.toInt) rfl (by omega) (by omega) (fun l46 w_47 => ?_))))))
          have z_48 : l46 = (x_kn sg NN (n.toInt).toNat).2.2.2 (w.toInt).toNat := KST_ld (K := (x_kn sg NN (n.toInt).toNat)) p_43 (by omega) (by omega) w_47
          refine s_v (pc := 36) rw_235_36 (dp0 hd (by decide)) (ls0 := [.ref 77, .int w, .long l46, .null, .null, .null]) rfl (Nat.le_of_ble_eq_true rfl) (Nat.le_of_ble_eq_true rfl) rfl (to_rc rfl rfl rfl (g_o hG42 rfl)) rfl ?_
          have c_49 : M44.2.1 77 28 = (M.2.1 77 28) := (F_n F41 (show ¬ (94 ≤ 77 ∧ 77 ≤ 98) by decide) c_34)
          have t_50 : (M44.2.1 77 28).toInt = (M.2.1 77 28).toInt := congrArg Int32.toInt c_49
          refine E_234 hX (dp1 hd (by decide)) hG42 (by omega) (by omega) (by omega) (by omega) p_43 (w := w) (x := l46) (sg := sg) (ca := ca) (K := (x_kn sg NN (n.toInt).toNat)) (fun r51 M55 hG53 F52 p_54 => ?_)
          have F56 := FR.c F45 F52 tg_138
          rw [z_48] at p_54
          refine to_r0 (pc := 39) rw_235_39 ?_
          have z_57 := x_falsely_y (s := sg) (N := NN) (sz := nz) (ca := ca) (n := n.toInt) (w := w.toInt) (by omega)
          exact h r51 M55 hG53 F56 (by omega)
set_option maxRecDepth 4000 in
set_option maxHeartbeats 0 in
theorem U_133_0 {X : mm_X} {d : Nat} {M : mm_M} {Q : Option Value → mm_M → Prop} {n : Int32} {w : Int32} {p : Nat} {pz : Nat} {q : Nat} {qz : Nat} {sg : x_S} {NN : x_N} {nz : Int} {ca : Int} (hX : g_X X) (hd : 6 ≤ d) (hp : p = 49 ∨ p = 58) (hpz : pz = 49 ∨ pz = 58) (hq : q = 67 ∨ q = 72) (hqz : qz = 67 ∨ qz = 72) (q1 : g_PQ M p pz q qz) (q2 : PLs M p sg) (q3 : CW M p sg) (q4 : g_W2 X) (q5 : NTc M NN nz) (q6 : x_vn sg ca NN nz) (q7 : (M.2.1 6 0).toInt = nz) (q8 : (M.2.1 0 12).toInt = ca) (q9 : ca ≤ 30) (h : ∀ (r : Int32) (M1 : mm_M), g_G M1 → FR md_k M M1 → (r.toInt = x_falsely sg NN nz ca n.toInt w.toInt) → Q (some (.int r)) M1) : ∀ nn9 : Nat, (∀ (N : mm_M) (u1 : Value) (x3 : Int32) (x4 : Int32), g_G N → FR md_k M N → (0 ≤ x4.toInt) → (x4.toInt ≤ 30) → (x4.toInt ≤ ca) → (0 ≤ x3.toInt) → (x3.toInt ≤ 30) → (x3.toInt ≤ x4.toInt) → (0 ≤ n.toInt) → (n.toInt ≤ nz) → (0 ≤ w.toInt) → (w.toInt ≤ 11) → (w.toInt < sg.2.2.1) → ((N.2.1 0 12).toInt = ca) → (PLs N p sg) → (KST N 12 13 14 15 ca sg (x_kn sg NN (n.toInt).toNat)) → (x_fl9 (x_kn sg NN (n.toInt).toNat) w.toInt ((x_kn sg NN (n.toInt).toNat).2.2.2 (w.toInt).toNat) (ca - x4.toInt).toNat (x4.toInt).toNat x3.toInt = x_fl9 (x_kn sg NN (n.toInt).toNat) w.toInt ((x_kn sg NN (n.toInt).toNat).2.2.2 (w.toInt).toNat) ca.toNat 0 0) → 30 - x4.toInt < (nn9 : Int) → mm_T X d 133 31 [.ref 0, u1, .int w, .int x3, .int x4] [] N Q) := by
  intro nn9
  induction nn9 with
  | zero =>
    intro N u1 x3 x4 hG F0 g1 g2 g3 g4 g5 g6 g7 g8 g9 g10 g11 g12 g13 g14 g15 hm
    have b_1 := g_b hG (a := 0) (i := 12) (lo := 0) (hi := 30) rfl rfl
    exfalso; omega
  | succ nn9 ih =>
    intro N u1 x3 x4 hG F0 g1 g2 g3 g4 g5 g6 g7 g8 g9 g10 g11 g12 g13 g14 g15 hm
    have b_2 := g_b hG (a := 0) (i := 12) (lo := 0) (hi := 30) rfl rfl
    have z_3 := g13.2.1
    have z_4 := g13.2.2.1
    have z_5 := g13.2.2.2.1
    have z_6 := g13.1
    have z_7 := z_6.1
    have z_8 := z_6.2.1
    have z_9 := z_6.2.2.1
    have z_10 := z_6.2.2.2.1
    have z_11 := z_6.2.2.2.2.1
    have z_12 := z_6.2.2.2.2.2.1
    have b_13 := g_b hG (a := p) (i := 2) (lo := 0) (hi := 8) (by rcases hp with rfl | rfl <;> rfl) (by rcases hp with rfl | rfl <;> rfl)
    have b_14 := g_b hG (a := p) (i := 3) (lo := 0) (hi := 12) (by rcases hp with rfl | rfl <;> rfl) (by rcases hp with rfl | rfl <;> rfl)
    have b_15 := g_b hG (a := 6) (i := 0) (lo := 0) (hi := 150) rfl rfl
    refine to_i (pc := 31) rw_133_31 rfl (to_an (pc := 33) rw_133_33 rfl (tt_gI (pc := 34) rw_133_34 (g_o hG rfl) (v := (N.2.1 0 12)) rfl (b_cge (pc := 37) rw_133_37 (A := x4.toInt) (B := (N.2.1 0 12).toInt) rfl rfl (fun h16 => ?_) (fun h16 => ?_))))
    · refine to_in (pc := 83) rw_133_83 rfl (to_r0 (pc := 84) rw_133_84 ?_)
      have z_17 := x_falsely_y (s := sg) (N := NN) (sz := nz) (ca := ca) (n := n.toInt) (w := w.toInt) (by omega)
      have z_18 := x_fl_x (by omega) g15
      exact h x3 N hG F0 (by omega)
    · refine to_an (pc := 40) rw_133_40 rfl (s_gR (pc := 41) rw_133_41 hG rfl (v := 11) rfl (to_i (pc := 44) rw_133_44 rfl (to_in (pc := 46) rw_133_46 rfl (s_v (pc := 47) rw_133_47 (dp0 hd (by decide)) (ls0 := [.ref 11, .int x4, .int w]) rfl (Nat.le_of_ble_eq_true rfl) (Nat.le_of_ble_eq_true rfl) rfl (to_rc rfl rfl rfl (g_o hG rfl)) rfl (to_an (pc := 0) rw_13_0 rfl (s_gR (pc := 1) rw_13_1 hG rfl (v := 13) rfl (to_in (pc := 4) rw_13_4 rfl (s_ial (pc := 5) rw_13_5 hG rfl (n := 30) rfl rfl (A := x4.toInt) rfl (by omega) (by omega) (lo := -2147483648) (hi := 2147483647) rfl rfl (fun v19 w_20 _ _ => ?_)))))))))
      have z_21 : v19 = (x_kn sg NN (n.toInt).toNat).2.1 (x4.toInt).toNat := KST_lw (K := (x_kn sg NN (n.toInt).toNat)) g14 (by omega) (by omega) w_20
      refine to_in (pc := 6) rw_13_6 rfl (s_opE (pc := 7) rw_13_7 (w := v19 >>> w) rfl (fun v22 e23 => to_c (pc := 8) rw_13_8 (x := (1 : Int32)) rfl rfl (s_and (pc := 9) rw_13_9 (B := 1) rfl (by omega) (fun v24 e25 _ _ => ?_))))
      have z_26 : x_hw (x_kn sg NN (n.toInt).toNat) (x4.toInt).toNat w.toInt = v24.toInt := x_hw_e z_21 rfl e23 e25
      refine b_ieq (pc := 10) rw_13_10 (A := v24.toInt) rfl (fun h27 => ?_) (fun h27 => ?_)
      · refine to_c (pc := 17) rw_13_17 (x := (0 : Int32)) rfl rfl (s_r1 (pc := 18) rw_13_18 (A := 0) rfl (by decide) (b_ine_f (pc := 50) rw_133_50 (A := 0) rfl (by decide) (to_an (pc := 53) rw_133_53 rfl (s_gR (pc := 54) rw_133_54 hG rfl (v := 11) rfl (to_i (pc := 57) rw_133_57 rfl (to_an (pc := 59) rw_133_59 rfl (s_gR (pc := 60) rw_133_60 hG rfl (v := 11) rfl (s_gR (pc := 63) rw_133_63 hG rfl (v := 15) rfl (to_in (pc := 66) rw_133_66 rfl (s_lalE (pc := 67) rw_133_67 hG rfl (n := 12) rfl (A := w.toInt) rfl (by omega) (by omega) (fun l28 w_29 => ?_)))))))))))
        have z_30 : l28 = (x_kn sg NN (n.toInt).toNat).2.2.2 (w.toInt).toNat := KST_ld (K := (x_kn sg NN (n.toInt).toNat)) g14 (by omega) (by omega) w_29
        refine s_v (pc := 68) rw_133_68 (dp0 hd (by decide)) (ls0 := [.ref 11, .int x4, .long l28, .null]) rfl (Nat.le_of_ble_eq_true rfl) (Nat.le_of_ble_eq_true rfl) rfl (to_rc rfl rfl rfl (g_o hG rfl)) rfl (to_an (pc := 0) rw_14_0 rfl (s_gR (pc := 1) rw_14_1 hG rfl (v := 12) rfl (to_in (pc := 4) rw_14_4 rfl (s_lalE (pc := 5) rw_14_5 hG rfl (n := 30) rfl (A := x4.toInt) rfl (by omega) (by omega) (fun l31 w_32 => ?_)))))
        have z_33 : l31 = (x_kn sg NN (n.toInt).toNat).1 (x4.toInt).toNat := KST_lc (K := (x_kn sg NN (n.toInt).toNat)) g14 (by omega) (by omega) w_32
        refine to_ln (pc := 6) rw_14_6 rfl rfl rfl (to_2l (pc := 7) rw_14_7 (v := (l31 &&& l28)) rfl (to_ln (pc := 8) rw_14_8 rfl rfl rfl (s_lcmpE (pc := 9) rw_14_9 (fun v34 e35 => ?_))))
        have b_36 := x_eq_b (x := (l31 &&& l28)) (y := l28)
        have z_37 : x_eq (l31 &&& l28) l28 = x_eq ((x_kn sg NN (n.toInt).toNat).1 (x4.toInt).toNat &&& ((x_kn sg NN (n.toInt).toNat).2.2.2 (w.toInt).toNat)) ((x_kn sg NN (n.toInt).toNat).2.2.2 (w.toInt).toNat) := by rw [z_33, z_30]
        refine b_ine (pc := 10) rw_14_10 (A := v34.toInt) rfl (fun h38 => ?_) (fun h38 => ?_)
        · refine to_c (pc := 17) rw_14_17 (x := (0 : Int32)) rfl rfl (s_r1 (pc := 18) rw_14_18 (A := 0) rfl (by decide) (b_ieq_t (pc := 71) rw_133_71 (A := 0) rfl (by decide) (s_inc (pc := 77) rw_133_77 (ls2 := fun v => [.ref 0, u1, .int w, .int x3, .int v]) rfl rfl (fun _ => rfl) (A := x4.toInt) (B := 1) rfl rfl (by omega) (fun v39 e40 => to_go (pc := 80) rw_133_80 ?_))))
          exact ih N (u1) x3 v39 hG F0 (by omega) (by omega) (by omega) (by omega) (by omega) (by omega) (by omega) (by omega) (by omega) (by omega) (by omega) (by omega) g13 g14 (x_fl_s (c := x4.toInt) (by omega) (by omega) (by omega) g15 (by first | (rw [if_pos ⟨by omega, by omega⟩] <;> omega) | (rw [if_neg (by omega)] <;> omega))) (by omega)
        · refine to_c (pc := 13) rw_14_13 (x := (1 : Int32)) rfl rfl (to_go (pc := 14) rw_14_14 (s_r1 (pc := 18) rw_14_18 (A := 1) rfl (by decide) (b_ieq_f (pc := 71) rw_133_71 (A := 1) rfl (by decide) (s_inc (pc := 74) rw_133_74 (ls2 := fun v => [.ref 0, u1, .int w, .int v, .int x4]) rfl rfl (fun _ => rfl) (A := x3.toInt) (B := 1) rfl rfl (by omega) (fun v41 e42 => s_inc (pc := 77) rw_133_77 (ls2 := fun v => [.ref 0, u1, .int w, .int v41, .int v]) rfl rfl (fun _ => rfl) (A := x4.toInt) (B := 1) rfl rfl (by omega) (fun v43 e44 => to_go (pc := 80) rw_133_80 ?_))))))
          exact ih N (u1) v41 v43 hG F0 (by omega) (by omega) (by omega) (by omega) (by omega) (by omega) (by omega) (by omega) (by omega) (by omega) (by omega) (by omega) g13 g14 (x_fl_s (c := x4.toInt) (by omega) (by omega) (by omega) g15 (by first | (rw [if_pos ⟨by omega, by omega⟩] <;> omega) | (rw [if_neg (by omega)] <;> omega))) (by omega)
      · refine to_c (pc := 13) rw_13_13 (x := (1 : Int32)) rfl rfl (to_go (pc := 14) rw_13_14 (s_r1 (pc := 18) rw_13_18 (A := 1) rfl (by decide) (b_ine_t (pc := 50) rw_133_50 (A := 1) rfl (by decide) (s_inc (pc := 77) rw_133_77 (ls2 := fun v => [.ref 0, u1, .int w, .int x3, .int v]) rfl rfl (fun _ => rfl) (A := x4.toInt) (B := 1) rfl rfl (by omega) (fun v45 e46 => to_go (pc := 80) rw_133_80 ?_)))))
        exact ih N (u1) x3 v45 hG F0 (by omega) (by omega) (by omega) (by omega) (by omega) (by omega) (by omega) (by omega) (by omega) (by omega) (by omega) (by omega) g13 g14 (x_fl_s (c := x4.toInt) (by omega) (by omega) (by omega) g15 (by first | (rw [if_pos ⟨by omega, by omega⟩] <;> omega) | (rw [if_neg (by omega)] <;> omega))) (by omega)
set_option maxRecDepth 4000 in
set_option maxHeartbeats 0 in
theorem E_133 {X : mm_X} {d : Nat} {M : mm_M} {Q : Option Value → mm_M → Prop} {n : Int32} {w : Int32} {p : Nat} {pz : Nat} {q : Nat} {qz : Nat} {sg : x_S} {NN : x_N} {nz : Int} {ca : Int} (hX : g_X X) (hd : 6 ≤ d) (hG : g_G M) (hp : p = 49 ∨ p = 58) (hpz : pz = 49 ∨ pz = 58) (hq : q = 67 ∨ q = 72) (hqz : qz = 67 ∨ qz = 72) (q1 : g_PQ M p pz q qz) (q2 : PLs M p sg) (q3 : CW M p sg) (q4 : g_W2 X) (q5 : NTc M NN nz) (q6 : x_vn sg ca NN nz) (q7 : (M.2.1 6 0).toInt = nz) (q8 : (M.2.1 0 12).toInt = ca) (q9 : ca ≤ 30) (h : ∀ (r : Int32) (M1 : mm_M), g_G M1 → FR md_k M M1 → (r.toInt = x_falsely sg NN nz ca n.toInt w.toInt) → Q (some (.int r)) M1) : mm_T X d 133 0 [.ref 0, .int n, .int w, .null, .null] [] M Q := by
  have F0 : FR md_k M M := FR.rf
  have b_47 := g_b hG (a := 6) (i := 0) (lo := 0) (hi := 150) rfl rfl
  have b_48 := g_b hG (a := 0) (i := 12) (lo := 0) (hi := 30) rfl rfl
  have z_49 := q2.2.1
  have z_50 := q2.2.2.1
  have z_51 := q2.2.2.2.1
  have z_52 := q2.1
  have z_53 := z_52.1
  have z_54 := z_52.2.1
  have z_55 := z_52.2.2.1
  have z_56 := z_52.2.2.2.1
  have z_57 := z_52.2.2.2.2.1
  have z_58 := z_52.2.2.2.2.2.1
  have b_59 := g_b hG (a := p) (i := 2) (lo := 0) (hi := 8) (by rcases hp with rfl | rfl <;> rfl) (by rcases hp with rfl | rfl <;> rfl)
  have b_60 := g_b hG (a := p) (i := 3) (lo := 0) (hi := 12) (by rcases hp with rfl | rfl <;> rfl) (by rcases hp with rfl | rfl <;> rfl)
  refine to_an (pc := 0) rw_133_0 rfl (to_in (pc := 1) rw_133_1 rfl (s_v (pc := 2) rw_133_2 (dp0 hd (by decide)) (ls0 := [.ref 0, .int n]) rfl (Nat.le_of_ble_eq_true rfl) (Nat.le_of_ble_eq_true rfl) rfl (to_rc rfl rfl rfl (g_o hG rfl)) rfl (to_in (pc := 0) rw_139_0 rfl (b_ilt (pc := 1) rw_139_1 (A := n.toInt) rfl (fun h61 => ?_) (fun h61 => ?_)))))
  · refine to_c (pc := 19) rw_139_19 (x := (0 : Int32)) rfl rfl (s_r1 (pc := 20) rw_139_20 (A := 0) rfl (by decide) (b_ieq_t (pc := 5) rw_133_5 (A := 0) rfl (by decide) (to_c (pc := 19) rw_133_19 (x := (-1 : Int32)) rfl rfl (to_r0 (pc := 20) rw_133_20 ?_))))
    have k_62 : (-1 : Int32).toInt = -1 := rfl
    have z_63 := x_falsely_n (s := sg) (N := NN) (sz := nz) (ca := ca) (n := n.toInt) (w := w.toInt) (by omega)
    exact h (-1 : Int32) M hG F0 (by omega)
  · refine to_in (pc := 4) rw_139_4 rfl (to_an (pc := 5) rw_139_5 rfl (s_gR (pc := 6) rw_139_6 hG rfl (v := 6) rfl (tt_gI (pc := 9) rw_139_9 (g_o hG rfl) (v := (M.2.1 6 0)) rfl (b_cgt (pc := 12) rw_139_12 (A := n.toInt) (B := (M.2.1 6 0).toInt) rfl rfl (fun h64 => ?_) (fun h64 => ?_)))))
    · refine to_c (pc := 19) rw_139_19 (x := (0 : Int32)) rfl rfl (s_r1 (pc := 20) rw_139_20 (A := 0) rfl (by decide) (b_ieq_t (pc := 5) rw_133_5 (A := 0) rfl (by decide) (to_c (pc := 19) rw_133_19 (x := (-1 : Int32)) rfl rfl (to_r0 (pc := 20) rw_133_20 ?_))))
      have k_65 : (-1 : Int32).toInt = -1 := rfl
      have z_66 := x_falsely_n (s := sg) (N := NN) (sz := nz) (ca := ca) (n := n.toInt) (w := w.toInt) (by omega)
      exact h (-1 : Int32) M hG F0 (by omega)
    · refine to_c (pc := 15) rw_139_15 (x := (1 : Int32)) rfl rfl (to_go (pc := 16) rw_139_16 (s_r1 (pc := 20) rw_139_20 (A := 1) rfl (by decide) (b_ieq_f (pc := 5) rw_133_5 (A := 1) rfl (by decide) (to_an (pc := 8) rw_133_8 rfl (tt_gR (pc := 9) rw_133_9 (g_o hG rfl) q1.1 (to_in (pc := 12) rw_133_12 rfl (s_v (pc := 13) rw_133_13 (dp0 hd (by decide)) (ls0 := [.ref p, .int w]) rfl (Nat.le_of_ble_eq_true rfl) (Nat.le_of_ble_eq_true rfl) rfl (to_rc rfl rfl rfl (g_o hG (by rcases hp with rfl | rfl <;> rfl))) rfl (to_in (pc := 0) rw_44_0 rfl (b_ilt (pc := 1) rw_44_1 (A := w.toInt) rfl (fun h67 => ?_) (fun h67 => ?_))))))))))
      · refine to_c (pc := 16) rw_44_16 (x := (0 : Int32)) rfl rfl (s_r1 (pc := 17) rw_44_17 (A := 0) rfl (by decide) (b_ine_f (pc := 16) rw_133_16 (A := 0) rfl (by decide) (to_c (pc := 19) rw_133_19 (x := (-1 : Int32)) rfl rfl (to_r0 (pc := 20) rw_133_20 ?_))))
        have k_68 : (-1 : Int32).toInt = -1 := rfl
        have z_69 := x_falsely_n (s := sg) (N := NN) (sz := nz) (ca := ca) (n := n.toInt) (w := w.toInt) (by omega)
        exact h (-1 : Int32) M hG F0 (by omega)
      · refine to_in (pc := 4) rw_44_4 rfl (to_an (pc := 5) rw_44_5 rfl (tt_gI (pc := 6) rw_44_6 (g_o hG (by rcases hp with rfl | rfl <;> rfl)) (v := (M.2.1 p 3)) rfl (b_cge (pc := 9) rw_44_9 (A := w.toInt) (B := (M.2.1 p 3).toInt) rfl rfl (fun h70 => ?_) (fun h70 => ?_))))
        · refine to_c (pc := 16) rw_44_16 (x := (0 : Int32)) rfl rfl (s_r1 (pc := 17) rw_44_17 (A := 0) rfl (by decide) (b_ine_f (pc := 16) rw_133_16 (A := 0) rfl (by decide) (to_c (pc := 19) rw_133_19 (x := (-1 : Int32)) rfl rfl (to_r0 (pc := 20) rw_133_20 ?_))))
          have k_71 : (-1 : Int32).toInt = -1 := rfl
          have z_72 := x_falsely_n (s := sg) (N := NN) (sz := nz) (ca := ca) (n := n.toInt) (w := w.toInt) (by omega)
          exact h (-1 : Int32) M hG F0 (by omega)
        · refine to_c (pc := 12) rw_44_12 (x := (1 : Int32)) rfl rfl (to_go (pc := 13) rw_44_13 (s_r1 (pc := 17) rw_44_17 (A := 1) rfl (by decide) (b_ine_t (pc := 16) rw_133_16 (A := 1) rfl (by decide) (to_an (pc := 21) rw_133_21 rfl (to_in (pc := 22) rw_133_22 rfl (s_v (pc := 23) rw_133_23 (dp0 hd (by decide)) (ls0 := [.ref 0, .int n]) rfl (Nat.le_of_ble_eq_true rfl) (Nat.le_of_ble_eq_true rfl) rfl (to_rc rfl rfl rfl (g_o hG rfl)) rfl (to_an (pc := 0) rw_141_0 rfl (s_gR (pc := 1) rw_141_1 hG rfl (v := 11) rfl (to_an (pc := 4) rw_141_4 rfl (tt_gR (pc := 5) rw_141_5 (g_o hG rfl) q1.1 (to_an (pc := 8) rw_141_8 rfl ?_)))))))))))
          refine s_gR (pc := 9) rw_141_9 hG rfl (v := 6) rfl (to_in (pc := 12) rw_141_12 rfl (s_v (pc := 13) rw_141_13 (dp1 hd (by decide)) (ls0 := [.ref 11, .ref p, .ref 6, .int n, .null]) rfl (Nat.le_of_ble_eq_true rfl) (Nat.le_of_ble_eq_true rfl) rfl (to_rc rfl rfl rfl (g_o hG rfl)) rfl (E_8 hX (dp2 hd (by decide)) hG hp (by omega) (by omega) (by omega) q3 q2 q4 q5 q6 (by omega) (p := p) (n := n) (sg := sg) (NN := NN) (nz := nz) (ca := ca) (fun M76 hG74 F73 p_75 => ?_))))
          have F77 := FR.c F0 F73 tg_133
          refine to_rv (pc := 16) rw_141_16 (to_c (pc := 26) rw_133_26 (x := (0 : Int32)) rfl rfl (to_isn (pc := 27) rw_133_27 (ls2 := [.ref 0, .int n, .int w, .int (0 : Int32), .null]) rfl rfl (to_c (pc := 28) rw_133_28 (x := (0 : Int32)) rfl rfl (to_is (pc := 29) rw_133_29 (ls2 := [.ref 0, .int n, .int w, .int (0 : Int32), .int (0 : Int32)]) rfl rfl ?_))))
          have k_78 : (0 : Int32).toInt = 0 := rfl
          have c_79 : M76.2.1 0 12 = (M.2.1 0 12) := (F_n F73 (show ¬ (11 ≤ 0 ∧ 0 ≤ 16) by decide) rfl)
          have t_80 : (M76.2.1 0 12).toInt = (M.2.1 0 12).toInt := congrArg Int32.toInt c_79
          have j_81 := (PLs_f (fun a i z => F_n F73 (show ¬ (11 ≤ a ∧ a ≤ 16) by omega) rfl) q2)
          exact (U_133_0 (n := n) (w := w) (p := p) (pz := pz) (q := q) (qz := qz) (sg := sg) (NN := NN) (nz := nz) (ca := ca) hX hd hp hpz hq hqz q1 q2 q3 q4 q5 q6 q7 q8 q9 h ((30 - (0 : Int32).toInt).toNat + 1)) M76 (.int n) (0 : Int32) (0 : Int32) hG74 F77 (by omega) (by omega) (by omega) (by omega) (by omega) (by omega) (by omega) (by omega) (by omega) (by omega) (by omega) (by omega) j_81 p_75 (x_fl_0 (by omega) (by omega)) (by omega)
