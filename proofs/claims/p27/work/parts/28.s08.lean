set_option maxRecDepth 4000 in
set_option maxHeartbeats 0 in
theorem U_236_0 {X : mm_X} {d : Nat} {M : mm_M} {Q : Option Value → mm_M → Prop} {w : Int32} {x : Int64} {sg : x_S} {ca : Int} {K : x_Kn} (hX : g_X X) (hd : 2 ≤ d) (q1 : 0 ≤ w.toInt) (q2 : w.toInt ≤ 11) (q3 : 0 ≤ x.toInt) (q4 : PLk M sg) (q5 : KST M 96 98 97 95 ca sg K) (h : ∀ (r : Int32) (M1 : mm_M), g_G M1 → FR md_0 M M1 → (r.toInt = x_sh9 K w.toInt x sg.2.2.1.toNat 0 0) → Q (some (.int r)) M1) : ∀ nn9 : Nat, (∀ (N : mm_M) (x4 : Int32) (x5 : Int32), g_G N → FR md_0 M N → (0 ≤ x5.toInt) → (x5.toInt ≤ 12) → (x5.toInt ≤ sg.2.2.1) → (0 ≤ x4.toInt) → (x4.toInt ≤ 800) → (x4.toInt ≤ 62 * x5.toInt) → (0 ≤ w.toInt) → (w.toInt ≤ 11) → (0 ≤ x.toInt) → (PLk N sg) → (KST N 96 98 97 95 ca sg K) → (x_sh9 K w.toInt x (sg.2.2.1 - x5.toInt).toNat (x5.toInt).toNat x4.toInt = x_sh9 K w.toInt x sg.2.2.1.toNat 0 0) → 12 - x5.toInt < (nn9 : Int) → mm_T X d 235 6 [.ref 77, .int w, .long x, .null, .int x4, .int x5] [] N Q) := by
  intro nn9
  induction nn9 with
  | zero =>
    intro N x4 x5 hG F0 g1 g2 g3 g4 g5 g6 g7 g8 g9 g10 g11 g12 hm
    exfalso; omega
  | succ nn9 ih =>
    intro N x4 x5 hG F0 g1 g2 g3 g4 g5 g6 g7 g8 g9 g10 g11 g12 hm
    have z_1 := g10.2.1
    have z_2 := g10.2.2.1
    have z_3 := g10.2.2.2.1
    have z_4 := g10.1
    have z_5 := z_4.1
    have z_6 := z_4.2.1
    have z_7 := z_4.2.2.1
    have z_8 := z_4.2.2.2.1
    have z_9 := z_4.2.2.2.2.1
    have z_10 := z_4.2.2.2.2.2.1
    have b_11 := g_b hG (a := 77) (i := 11) (lo := 10) (hi := 60) rfl rfl
    have b_12 := g_b hG (a := 77) (i := 12) (lo := 0) (hi := 8) rfl rfl
    have b_13 := g_b hG (a := 77) (i := 13) (lo := 0) (hi := 12) rfl rfl
    refine to_i (pc := 6) rw_236_6 rfl (to_an (pc := 8) rw_236_8 rfl (tt_gI (pc := 9) rw_236_9 (g_o hG rfl) (v := (N.2.1 77 13)) rfl (b_cge (pc := 12) rw_236_12 (A := x5.toInt) (B := (N.2.1 77 13).toInt) rfl rfl (fun h14 => ?_) (fun h14 => ?_))))
    · refine to_i (pc := 48) rw_236_48 rfl (to_r0 (pc := 50) rw_236_50 ?_)
      have z_15 := x_sh_x (by omega) g12
      exact h x4 N hG F0 (by omega)
    · refine to_i (pc := 15) rw_236_15 rfl (to_i (pc := 17) rw_236_17 rfl (to_in (pc := 19) rw_236_19 rfl (b_cne (pc := 20) rw_236_20 (A := x5.toInt) (B := w.toInt) rfl rfl (fun h16 => ?_) (fun h16 => ?_))))
      · refine to_an (pc := 27) rw_236_27 rfl (s_gR (pc := 28) rw_236_28 hG rfl (v := 95) rfl (to_i (pc := 31) rw_236_31 rfl (s_lalE (pc := 33) rw_236_33 hG rfl (n := 12) rfl (A := x5.toInt) rfl (by omega) (by omega) (fun l17 w_18 => ?_))))
        have z_19 : l17 = K.2.2.2 (x5.toInt).toNat := KST_ld (K := K) g11 (by omega) (by omega) w_18
        refine to_ln (pc := 34) rw_236_34 rfl rfl rfl (to_2l (pc := 35) rw_236_35 (v := (l17 &&& x)) rfl (s_s (pc := 36) rw_236_36 (dp0 hd (by decide)) (ls0 := [.long (l17 &&& x), .null, .null, .null]) rfl (Nat.le_of_ble_eq_true rfl) (Nat.le_of_ble_eq_true rfl) rfl (to_rcs rfl rfl) rfl ?_))
        have z_20 := l_and_r (x := l17) (y := x) (by omega)
        have z_21 := x_ct_le (n := (l17 &&& x).toInt.toNat) 62
        refine E_151l hX (dp1 hd (by decide)) hG (by omega) (x := (l17 &&& x)) (fun r22 M26 hG24 F23 p_25 => ?_)
        have F27 := FR.c F0 F23 tg_29
        refine s_add (pc := 39) rw_236_39 (A := x4.toInt) (B := r22.toInt) rfl rfl (by omega) (fun v28 e29 => to_is (pc := 40) rw_236_40 (ls2 := [.ref 77, .int w, .long x, .null, .int v28, .int x5]) rfl rfl (s_inc (pc := 42) rw_236_42 (ls2 := fun v => [.ref 77, .int w, .long x, .null, .int v28, .int v]) rfl rfl (fun _ => rfl) (A := x5.toInt) (B := 1) rfl rfl (by omega) (fun v30 e31 => to_go (pc := 45) rw_236_45 ?_)))
        have j_32 := (PLk_f (tg_101 F23) g10)
        have kn_33 : KST M26 96 98 97 95 ca sg K := KST_f (fun i => (F_nl F23 (show ¬ (96 < 0) by decide) rfl)) (fun i => (F_n F23 (show ¬ (98 < 0) by decide) rfl)) (fun i => (F_n F23 (show ¬ (97 < 0) by decide) rfl)) (fun i => (F_nl F23 (show ¬ (95 < 0) by decide) rfl)) g11
        exact ih M26 v28 v30 hG24 F27 (by omega) (by omega) (by omega) (by omega) (by omega) (by omega) (by omega) (by omega) (by omega) j_32 kn_33 (x_sh_s (v := x5.toInt) (by omega) (by omega) (by omega) g12 (x_sw_v (by omega) (by omega) z_19 p_25 (by omega))) (by omega)
      · refine to_c (pc := 23) rw_236_23 (x := (0 : Int32)) rfl rfl (to_go (pc := 24) rw_236_24 (s_add (pc := 39) rw_236_39 (A := x4.toInt) (B := 0) rfl rfl (by omega) (fun v34 e35 => to_is (pc := 40) rw_236_40 (ls2 := [.ref 77, .int w, .long x, .null, .int v34, .int x5]) rfl rfl (s_inc (pc := 42) rw_236_42 (ls2 := fun v => [.ref 77, .int w, .long x, .null, .int v34, .int v]) rfl rfl (fun _ => rfl) (A := x5.toInt) (B := 1) rfl rfl (by omega) (fun v36 e37 => to_go (pc := 45) rw_236_45 ?_)))))
        exact ih N v34 v36 hG F0 (by omega) (by omega) (by omega) (by omega) (by omega) (by omega) (by omega) (by omega) (by omega) g10 g11 (x_sh_s (v := x5.toInt) (by omega) (by omega) (by omega) g12 (x_sw_w (by omega) (by omega) (by omega))) (by omega)
set_option maxRecDepth 4000 in
set_option maxHeartbeats 0 in
theorem E_236 {X : mm_X} {d : Nat} {M : mm_M} {Q : Option Value → mm_M → Prop} {w : Int32} {x : Int64} {sg : x_S} {ca : Int} {K : x_Kn} (hX : g_X X) (hd : 2 ≤ d) (hG : g_G M) (q1 : 0 ≤ w.toInt) (q2 : w.toInt ≤ 11) (q3 : 0 ≤ x.toInt) (q4 : PLk M sg) (q5 : KST M 96 98 97 95 ca sg K) (h : ∀ (r : Int32) (M1 : mm_M), g_G M1 → FR md_0 M M1 → (r.toInt = x_sh9 K w.toInt x sg.2.2.1.toNat 0 0) → Q (some (.int r)) M1) : mm_T X d 235 0 [.ref 77, .int w, .long x, .null, .null, .null] [] M Q := by
  have F0 : FR md_0 M M := FR.rf
  have z_38 := q4.2.1
  have z_39 := q4.2.2.1
  have z_40 := q4.2.2.2.1
  have z_41 := q4.1
  have z_42 := z_41.1
  have z_43 := z_41.2.1
  have z_44 := z_41.2.2.1
  have z_45 := z_41.2.2.2.1
  have z_46 := z_41.2.2.2.2.1
  have z_47 := z_41.2.2.2.2.2.1
  have b_48 := g_b hG (a := 77) (i := 11) (lo := 10) (hi := 60) rfl rfl
  have b_49 := g_b hG (a := 77) (i := 12) (lo := 0) (hi := 8) rfl rfl
  have b_50 := g_b hG (a := 77) (i := 13) (lo := 0) (hi := 12) rfl rfl
  refine to_c (pc := 0) rw_236_0 (x := (0 : Int32)) rfl rfl (to_is (pc := 1) rw_236_1 (ls2 := [.ref 77, .int w, .long x, .null, .int (0 : Int32), .null]) rfl rfl (to_c (pc := 3) rw_236_3 (x := (0 : Int32)) rfl rfl (to_is (pc := 4) rw_236_4 (ls2 := [.ref 77, .int w, .long x, .null, .int (0 : Int32), .int (0 : Int32)]) rfl rfl ?_)))
  have k_51 : (0 : Int32).toInt = 0 := rfl
  exact (U_236_0 (w := w) (x := x) (sg := sg) (ca := ca) (K := K) hX hd q1 q2 q3 q4 q5 h ((12 - (0 : Int32).toInt).toNat + 1)) M (0 : Int32) (0 : Int32) hG F0 (by omega) (by omega) (by omega) (by omega) (by omega) (by omega) (by omega) (by omega) (by omega) q4 q5 (x_sh_0 (by first | rfl | omega) (by first | rfl | omega)) (by omega)
