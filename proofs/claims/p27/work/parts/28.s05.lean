set_option maxRecDepth 4000 in
set_option maxHeartbeats 0 in
theorem E_247w {X : mm_X} {d : Nat} {M : mm_M} {Q : Option Value → mm_M → Prop} {x : Int32} (hX : g_X X) (hd : 0 ≤ d) (hG : g_G M) (q1 : 0 ≤ x.toInt) (q2 : x.toInt ≤ 1073741823) (h : ∀ (r : Int32) (M1 : mm_M), g_G M1 → FR md_0 M M1 → (r.toInt = ((x_ct (x.toInt).toNat 62 : Nat) : Int)) → Q (some (.int r)) M1) : mm_T X d 246 0 [.int x] [] M Q := by
  have F0 : FR md_0 M M := FR.rf
  refine to_in (pc := 0) rw_247_0 rfl (to_in (pc := 1) rw_247_1 rfl (to_c (pc := 2) rw_247_2 (x := (1 : Int32)) rfl rfl (s_opE (pc := 3) rw_247_3 (w := ((x.toUInt32 >>> ((1 : Int32).toUInt32 &&& Int32.toUInt32 31)).toInt32)) rfl (fun v1 e2 => ?_))))
  have u_3 : v1.toInt = x.toInt / 2 := by rw [← e2]; exact i_ushr (k := 1) (by decide) (by omega)
  refine to_c (pc := 4) rw_247_4 (x := (1431655765 : Int32)) rfl rfl (s_and' (pc := 7) rw_247_7 (A := v1.toInt) rfl (by omega) (fun v4 e5 _ _ => ?_))
  have k_6 : (1431655765 : Int32).toInt = 1431655765 := rfl
  have u_7 : v4.toInt = ((v1.toInt.toNat &&& 1431655765 : Nat) : Int) := by rw [← e5]; exact i_and_n (by omega) (by decide)
  have z_8 := (Nat.and_le_left : (v1.toInt.toNat &&& 1431655765) ≤ v1.toInt.toNat)
  refine s_sub (pc := 8) rw_247_8 (A := x.toInt) (B := v4.toInt) rfl rfl (by omega) (fun v9 e10 => to_isn (pc := 9) rw_247_9 (ls2 := [.int v9]) rfl rfl (to_in (pc := 10) rw_247_10 rfl (to_c (pc := 11) rw_247_11 (x := (858993459 : Int32)) rfl rfl (s_and (pc := 14) rw_247_14 (B := 858993459) rfl (by omega) (fun v11 e12 _ _ => ?_)))))
  have k_13 : (858993459 : Int32).toInt = 858993459 := rfl
  have u_14 : v11.toInt = ((v9.toInt.toNat &&& 858993459 : Nat) : Int) := by rw [← e12]; exact i_and_n (by omega) (by decide)
  have z_15 := (Nat.and_le_left : (v9.toInt.toNat &&& 858993459) ≤ v9.toInt.toNat)
  refine to_in (pc := 15) rw_247_15 rfl (to_c (pc := 16) rw_247_16 (x := (2 : Int32)) rfl rfl (s_opE (pc := 17) rw_247_17 (w := ((v9.toUInt32 >>> ((2 : Int32).toUInt32 &&& Int32.toUInt32 31)).toInt32)) rfl (fun v16 e17 => ?_)))
  have u_18 : v16.toInt = v9.toInt / 4 := by rw [← e17]; exact i_ushr (k := 2) (by decide) (by omega)
  refine to_c (pc := 18) rw_247_18 (x := (858993459 : Int32)) rfl rfl (s_and (pc := 21) rw_247_21 (B := 858993459) rfl (by omega) (fun v19 e20 _ _ => ?_))
  have u_21 : v19.toInt = ((v16.toInt.toNat &&& 858993459 : Nat) : Int) := by rw [← e20]; exact i_and_n (by omega) (by decide)
  have z_22 := (Nat.and_le_left : (v16.toInt.toNat &&& 858993459) ≤ v16.toInt.toNat)
  refine s_add (pc := 22) rw_247_22 (A := v11.toInt) (B := v19.toInt) rfl rfl (by omega) (fun v23 e24 => to_isn (pc := 23) rw_247_23 (ls2 := [.int v23]) rfl rfl (to_in (pc := 24) rw_247_24 rfl (to_in (pc := 25) rw_247_25 rfl (to_c (pc := 26) rw_247_26 (x := (4 : Int32)) rfl rfl (s_opE (pc := 27) rw_247_27 (w := ((v23.toUInt32 >>> ((4 : Int32).toUInt32 &&& Int32.toUInt32 31)).toInt32)) rfl (fun v25 e26 => ?_))))))
  have u_27 : v25.toInt = v23.toInt / 16 := by rw [← e26]; exact i_ushr (k := 4) (by decide) (by omega)
  refine s_add (pc := 28) rw_247_28 (A := v23.toInt) (B := v25.toInt) rfl rfl (by omega) (fun v28 e29 => to_c (pc := 29) rw_247_29 (x := (252645135 : Int32)) rfl rfl (s_and (pc := 32) rw_247_32 (B := 252645135) rfl (by omega) (fun v30 e31 _ _ => ?_)))
  have k_32 : (252645135 : Int32).toInt = 252645135 := rfl
  have u_33 : v30.toInt = ((v28.toInt.toNat &&& 252645135 : Nat) : Int) := by rw [← e31]; exact i_and_n (by omega) (by decide)
  have z_34 := (Nat.and_le_left : (v28.toInt.toNat &&& 252645135) ≤ v28.toInt.toNat)
  refine to_isn (pc := 33) rw_247_33 (ls2 := [.int v30]) rfl rfl (to_in (pc := 34) rw_247_34 rfl (to_in (pc := 35) rw_247_35 rfl (to_c (pc := 36) rw_247_36 (x := (8 : Int32)) rfl rfl (s_opE (pc := 38) rw_247_38 (w := ((v30.toUInt32 >>> ((8 : Int32).toUInt32 &&& Int32.toUInt32 31)).toInt32)) rfl (fun v35 e36 => ?_)))))
  have u_37 : v35.toInt = v30.toInt / 256 := by rw [← e36]; exact i_ushr (k := 8) (by decide) (by omega)
  refine s_add (pc := 39) rw_247_39 (A := v30.toInt) (B := v35.toInt) rfl rfl (by omega) (fun v38 e39 => to_isn (pc := 40) rw_247_40 (ls2 := [.int v38]) rfl rfl (to_in (pc := 41) rw_247_41 rfl (to_in (pc := 42) rw_247_42 rfl (to_c (pc := 43) rw_247_43 (x := (16 : Int32)) rfl rfl (s_opE (pc := 45) rw_247_45 (w := ((v38.toUInt32 >>> ((16 : Int32).toUInt32 &&& Int32.toUInt32 31)).toInt32)) rfl (fun v40 e41 => ?_))))))
  have u_42 : v40.toInt = v38.toInt / 65536 := by rw [← e41]; exact i_ushr (k := 16) (by decide) (by omega)
  refine s_add (pc := 46) rw_247_46 (A := v38.toInt) (B := v40.toInt) rfl rfl (by omega) (fun v43 e44 => to_isn (pc := 47) rw_247_47 (ls2 := [.int v43]) rfl rfl (to_in (pc := 48) rw_247_48 rfl (to_c (pc := 49) rw_247_49 (x := (63 : Int32)) rfl rfl (s_and (pc := 51) rw_247_51 (B := 63) rfl (by omega) (fun v45 e46 _ _ => ?_)))))
  have k_47 : (63 : Int32).toInt = 63 := rfl
  have u_48 : v45.toInt = ((v43.toInt.toNat &&& 63 : Nat) : Int) := by rw [← e46]; exact i_and_n (by omega) (by decide)
  have z_49 := (Nat.and_le_left : (v43.toInt.toNat &&& 63) ≤ v43.toInt.toNat)
  refine to_r0 (pc := 52) rw_247_52 ?_
  have z_50 := bc_all4 (x := x.toInt) (by omega) (by omega) u_3 u_7 (by omega) u_14 u_18 u_21 (by omega) u_27 (by omega) u_33 u_37 (by omega) u_42 (by omega) u_48
  have z_51 := n_bc4 (n := (x.toInt).toNat) (by omega)
  exact h v45 M hG F0 (by omega)
set_option maxRecDepth 4000 in
set_option maxHeartbeats 0 in
theorem U_3_0 {X : mm_X} {d : Nat} {M : mm_M} {Q : Option Value → mm_M → Prop} {c : Int32} {y : Int32} {sg : x_S} {ca : Int} {K : x_Kn} (hX : g_X X) (hd : 0 ≤ d) (q1 : c.toInt = ca) (q2 : 0 ≤ ca) (q3 : ca ≤ 30) (q4 : 0 ≤ y.toInt) (q5 : y.toInt ≤ 59) (q6 : KST M 12 13 14 15 ca sg K) (h : ∀ (r : Int32) (M1 : mm_M), g_G M1 → FR md_0 M M1 → (r = x_cc9 K ca.toNat y.toInt) → Q (some (.int r)) M1) : ∀ nn9 : Nat, (∀ (N : mm_M) (x3 : Int32) (x4 : Int32), g_G N → FR md_0 M N → (0 ≤ x4.toInt) → (x4.toInt ≤ 30) → (x4.toInt ≤ ca) → (c.toInt = ca) → (ca ≤ 30) → (0 ≤ y.toInt) → (y.toInt ≤ 59) → (KST N 12 13 14 15 ca sg K) → (x3 = x_btq (fun c => x_on (K.1 c) (y.toInt).toNat) (x4.toInt).toNat) → 30 - x4.toInt < (nn9 : Int) → mm_T X d 3 5 [.ref 11, .int c, .int y, .int x3, .int x4] [] N Q) := by
  intro nn9
  induction nn9 with
  | zero =>
    intro N x3 x4 hG F0 g1 g2 g3 g4 g5 g6 g7 g8 g9 hm
    exfalso; omega
  | succ nn9 ih =>
    intro N x3 x4 hG F0 g1 g2 g3 g4 g5 g6 g7 g8 g9 hm
    refine to_i (pc := 5) rw_3_5 rfl (to_in (pc := 7) rw_3_7 rfl (b_cge (pc := 8) rw_3_8 (A := x4.toInt) (B := c.toInt) rfl rfl (fun h1 => ?_) (fun h1 => ?_)))
    · refine to_in (pc := 35) rw_3_35 rfl (to_r0 (pc := 36) rw_3_36 ?_)
      exact h x3 N hG F0 (cc_x (n := x4.toInt) g9 (by omega))
    · refine to_in (pc := 11) rw_3_11 rfl (to_an (pc := 12) rw_3_12 rfl (s_gR (pc := 13) rw_3_13 hG rfl (v := 12) rfl (to_i (pc := 16) rw_3_16 rfl (s_lalE (pc := 18) rw_3_18 hG rfl (n := 30) rfl (A := x4.toInt) rfl (by omega) (by omega) (fun l2 w_3 => ?_)))))
      have z_4 : l2 = K.1 (x4.toInt).toNat := KST_lc (K := K) g8 (by omega) (by omega) w_3
      refine to_in (pc := 19) rw_3_19 rfl (to_2s (pc := 20) rw_3_20 (v := (l2 >>> (y.toInt64 &&& 63))) rfl (to_cl (pc := 21) rw_3_21 rfl (x := (1 : Int64)) rfl (s_opLE (pc := 22) rw_3_22 (w := (l2 >>> (y.toInt64 &&& 63)) &&& (1 : Int64)) rfl (fun l5 e6 => s_l2iE (pc := 23) rw_3_23 (fun v7 e8 => to_i (pc := 24) rw_3_24 rfl (s_opE (pc := 26) rw_3_26 (w := v7 <<< x4) rfl (fun v9 e10 => s_opE (pc := 27) rw_3_27 (w := x3 ||| v9) rfl (fun v11 e12 => to_isn (pc := 28) rw_3_28 (ls2 := [.ref 11, .int c, .int y, .int v11, .int x4]) rfl rfl (s_inc (pc := 29) rw_3_29 (ls2 := fun v => [.ref 11, .int c, .int y, .int v11, .int v]) rfl rfl (fun _ => rfl) (A := x4.toInt) (B := 1) rfl rfl (by omega) (fun v13 e14 => to_go (pc := 32) rw_3_32 ?_))))))))))
      exact ih N v11 v13 hG F0 (by omega) (by omega) (by omega) (by omega) (by omega) (by omega) (by omega) g8 (cc_s (K := K) (n := x4.toInt) (y := y.toInt) g9 (by omega) (by omega) z_4 rfl (by omega) (by omega) ((congrArg Int64.toInt32 e6).trans e8) rfl e10 e12) (by omega)
set_option maxRecDepth 4000 in
set_option maxHeartbeats 0 in
theorem E_3 {X : mm_X} {d : Nat} {M : mm_M} {Q : Option Value → mm_M → Prop} {c : Int32} {y : Int32} {sg : x_S} {ca : Int} {K : x_Kn} (hX : g_X X) (hd : 0 ≤ d) (hG : g_G M) (q1 : c.toInt = ca) (q2 : 0 ≤ ca) (q3 : ca ≤ 30) (q4 : 0 ≤ y.toInt) (q5 : y.toInt ≤ 59) (q6 : KST M 12 13 14 15 ca sg K) (h : ∀ (r : Int32) (M1 : mm_M), g_G M1 → FR md_0 M M1 → (r = x_cc9 K ca.toNat y.toInt) → Q (some (.int r)) M1) : mm_T X d 3 0 [.ref 11, .int c, .int y, .null, .null] [] M Q := by
  have F0 : FR md_0 M M := FR.rf
  refine to_c (pc := 0) rw_3_0 (x := (0 : Int32)) rfl rfl (to_isn (pc := 1) rw_3_1 (ls2 := [.ref 11, .int c, .int y, .int (0 : Int32), .null]) rfl rfl (to_c (pc := 2) rw_3_2 (x := (0 : Int32)) rfl rfl (to_is (pc := 3) rw_3_3 (ls2 := [.ref 11, .int c, .int y, .int (0 : Int32), .int (0 : Int32)]) rfl rfl ?_)))
  have k_15 : (0 : Int32).toInt = 0 := rfl
  exact (U_3_0 (c := c) (y := y) (sg := sg) (ca := ca) (K := K) hX hd q1 q2 q3 q4 q5 q6 h ((30 - (0 : Int32).toInt).toNat + 1)) M (0 : Int32) (0 : Int32) hG F0 (by omega) (by omega) (by omega) (by omega) (by omega) (by omega) (by omega) q6 (x_btq_00 (by first | rfl | omega) rfl) (by omega)
set_option maxRecDepth 4000 in
set_option maxHeartbeats 0 in
theorem U_4_0 {X : mm_X} {d : Nat} {M : mm_M} {Q : Option Value → mm_M → Prop} {p : Nat} {w : Int32} {y : Int32} {sg : x_S} {ca : Int} {K : x_Kn} (hX : g_X X) (hd : 0 ≤ d) (hp : p = 49 ∨ p = 58) (q1 : 0 ≤ w.toInt) (q2 : w.toInt ≤ 11) (q3 : 0 ≤ y.toInt) (q4 : y.toInt ≤ 59) (q5 : PLs M p sg) (q6 : KST M 12 13 14 15 ca sg K) (h : ∀ (r : Int32) (M1 : mm_M), g_G M1 → FR md_0 M M1 → (r.toInt = x_oa9 K w.toInt y.toInt sg.2.2.1.toNat 0 0) → Q (some (.int r)) M1) : ∀ nn9 : Nat, (∀ (N : mm_M) (x4 : Int32) (x5 : Int32), g_G N → FR md_0 M N → (0 ≤ x5.toInt) → (x5.toInt ≤ 12) → (x5.toInt ≤ sg.2.2.1) → (0 ≤ x4.toInt) → (x4.toInt ≤ 12) → (x4.toInt ≤ x5.toInt) → (0 ≤ w.toInt) → (w.toInt ≤ 11) → (0 ≤ y.toInt) → (y.toInt ≤ 59) → (PLs N p sg) → (KST N 12 13 14 15 ca sg K) → (x_oa9 K w.toInt y.toInt (sg.2.2.1 - x5.toInt).toNat (x5.toInt).toNat x4.toInt = x_oa9 K w.toInt y.toInt sg.2.2.1.toNat 0 0) → 12 - x5.toInt < (nn9 : Int) → mm_T X d 4 6 [.ref p, .ref 11, .int w, .int y, .int x4, .int x5] [] N Q) := by
  intro nn9
  induction nn9 with
  | zero =>
    intro N x4 x5 hG F0 g1 g2 g3 g4 g5 g6 g7 g8 g9 g10 g11 g12 g13 hm
    exfalso; omega
  | succ nn9 ih =>
    intro N x4 x5 hG F0 g1 g2 g3 g4 g5 g6 g7 g8 g9 g10 g11 g12 g13 hm
    have z_1 := g11.2.1
    have z_2 := g11.2.2.1
    have z_3 := g11.2.2.2.1
    have z_4 := g11.1
    have z_5 := z_4.1
    have z_6 := z_4.2.1
    have z_7 := z_4.2.2.1
    have z_8 := z_4.2.2.2.1
    have z_9 := z_4.2.2.2.2.1
    have z_10 := z_4.2.2.2.2.2.1
    have b_11 := g_b hG (a := p) (i := 3) (lo := 0) (hi := 12) (by rcases hp with rfl | rfl <;> rfl) (by rcases hp with rfl | rfl <;> rfl)
    refine to_i (pc := 6) rw_4_6 rfl (to_an (pc := 8) rw_4_8 rfl (tt_gI (pc := 9) rw_4_9 (g_o hG (by rcases hp with rfl | rfl <;> rfl)) (v := (N.2.1 p 3)) rfl (b_cge (pc := 12) rw_4_12 (A := x5.toInt) (B := (N.2.1 p 3).toInt) rfl rfl (fun h12 => ?_) (fun h12 => ?_))))
    · refine to_i (pc := 46) rw_4_46 rfl (to_r0 (pc := 48) rw_4_48 ?_)
      have z_13 := x_oa_x (by omega) g13
      exact h x4 N hG F0 (by omega)
    · refine to_i (pc := 15) rw_4_15 rfl (to_in (pc := 17) rw_4_17 rfl (b_ceq (pc := 18) rw_4_18 (A := x5.toInt) (B := w.toInt) rfl rfl (fun h14 => ?_) (fun h14 => ?_)))
      · refine s_inc (pc := 40) rw_4_40 (ls2 := fun v => [.ref p, .ref 11, .int w, .int y, .int x4, .int v]) rfl rfl (fun _ => rfl) (A := x5.toInt) (B := 1) rfl rfl (by omega) (fun v15 e16 => to_go (pc := 43) rw_4_43 ?_)
        exact ih N x4 v15 hG F0 (by omega) (by omega) (by omega) (by omega) (by omega) (by omega) (by omega) (by omega) (by omega) (by omega) g11 g12 (x_oa_s (v := x5.toInt) (by omega) (by omega) (by omega) g13 (by (rw [if_neg (x_ob_w (by omega) (by omega))] <;> omega))) (by omega)
      · refine to_an (pc := 21) rw_4_21 rfl (s_gR (pc := 22) rw_4_22 hG rfl (v := 15) rfl (to_i (pc := 25) rw_4_25 rfl (s_lalE (pc := 27) rw_4_27 hG rfl (n := 12) rfl (A := x5.toInt) rfl (by omega) (by omega) (fun l17 w_18 => ?_))))
        have z_19 : l17 = K.2.2.2 (x5.toInt).toNat := KST_ld (K := K) g12 (by omega) (by omega) w_18
        refine to_in (pc := 28) rw_4_28 rfl (to_2s (pc := 29) rw_4_29 (v := (l17 >>> (y.toInt64 &&& 63))) rfl (to_cl (pc := 30) rw_4_30 rfl (x := (1 : Int64)) rfl (to_2l (pc := 31) rw_4_31 (v := ((l17 >>> (y.toInt64 &&& 63)) &&& (1 : Int64))) rfl (to_cl (pc := 32) rw_4_32 rfl (x := (0 : Int64)) rfl (s_lcmpE (pc := 33) rw_4_33 (fun v20 e21 => ?_))))))
        have b_22 := x_eq_b (x := ((l17 >>> (y.toInt64 &&& 63)) &&& (1 : Int64))) (y := (0 : Int64))
        have z_23 := x_ob_i (Q := K) (w := w.toInt) (h := y.toInt) (v := x5.toInt) (u := y) rfl (by omega) (by omega) (by omega) z_19
        refine b_ieq (pc := 34) rw_4_34 (A := v20.toInt) rfl (fun h24 => ?_) (fun h24 => ?_)
        · refine s_inc (pc := 40) rw_4_40 (ls2 := fun v => [.ref p, .ref 11, .int w, .int y, .int x4, .int v]) rfl rfl (fun _ => rfl) (A := x5.toInt) (B := 1) rfl rfl (by omega) (fun v25 e26 => to_go (pc := 43) rw_4_43 ?_)
          exact ih N x4 v25 hG F0 (by omega) (by omega) (by omega) (by omega) (by omega) (by omega) (by omega) (by omega) (by omega) (by omega) g11 g12 (x_oa_s (v := x5.toInt) (by omega) (by omega) (by omega) g13 (by first | (rw [if_pos (z_23.mpr ⟨by omega, by omega⟩)] <;> omega) | (rw [if_neg (fun z => by have := z_23.mp z; omega)] <;> omega))) (by omega)
        · refine s_inc (pc := 37) rw_4_37 (ls2 := fun v => [.ref p, .ref 11, .int w, .int y, .int v, .int x5]) rfl rfl (fun _ => rfl) (A := x4.toInt) (B := 1) rfl rfl (by omega) (fun v27 e28 => s_inc (pc := 40) rw_4_40 (ls2 := fun v => [.ref p, .ref 11, .int w, .int y, .int v27, .int v]) rfl rfl (fun _ => rfl) (A := x5.toInt) (B := 1) rfl rfl (by omega) (fun v29 e30 => to_go (pc := 43) rw_4_43 ?_))
          exact ih N v27 v29 hG F0 (by omega) (by omega) (by omega) (by omega) (by omega) (by omega) (by omega) (by omega) (by omega) (by omega) g11 g12 (x_oa_s (v := x5.toInt) (by omega) (by omega) (by omega) g13 (by first | (rw [if_pos (z_23.mpr ⟨by omega, by omega⟩)] <;> omega) | (rw [if_neg (fun z => by have := z_23.mp z; omega)] <;> omega))) (by omega)
set_option maxRecDepth 4000 in
set_option maxHeartbeats 0 in
theorem E_4 {X : mm_X} {d : Nat} {M : mm_M} {Q : Option Value → mm_M → Prop} {p : Nat} {w : Int32} {y : Int32} {sg : x_S} {ca : Int} {K : x_Kn} (hX : g_X X) (hd : 0 ≤ d) (hG : g_G M) (hp : p = 49 ∨ p = 58) (q1 : 0 ≤ w.toInt) (q2 : w.toInt ≤ 11) (q3 : 0 ≤ y.toInt) (q4 : y.toInt ≤ 59) (q5 : PLs M p sg) (q6 : KST M 12 13 14 15 ca sg K) (h : ∀ (r : Int32) (M1 : mm_M), g_G M1 → FR md_0 M M1 → (r.toInt = x_oa9 K w.toInt y.toInt sg.2.2.1.toNat 0 0) → Q (some (.int r)) M1) : mm_T X d 4 0 [.ref p, .ref 11, .int w, .int y, .null, .null] [] M Q := by
  have F0 : FR md_0 M M := FR.rf
  have z_31 := q5.2.1
  have z_32 := q5.2.2.1
  have z_33 := q5.2.2.2.1
  have z_34 := q5.1
  have z_35 := z_34.1
  have z_36 := z_34.2.1
  have z_37 := z_34.2.2.1
  have z_38 := z_34.2.2.2.1
  have z_39 := z_34.2.2.2.2.1
  have z_40 := z_34.2.2.2.2.2.1
  have b_41 := g_b hG (a := p) (i := 3) (lo := 0) (hi := 12) (by rcases hp with rfl | rfl <;> rfl) (by rcases hp with rfl | rfl <;> rfl)
  refine to_c (pc := 0) rw_4_0 (x := (0 : Int32)) rfl rfl (to_is (pc := 1) rw_4_1 (ls2 := [.ref p, .ref 11, .int w, .int y, .int (0 : Int32), .null]) rfl rfl (to_c (pc := 3) rw_4_3 (x := (0 : Int32)) rfl rfl (to_is (pc := 4) rw_4_4 (ls2 := [.ref p, .ref 11, .int w, .int y, .int (0 : Int32), .int (0 : Int32)]) rfl rfl ?_)))
  have k_42 : (0 : Int32).toInt = 0 := rfl
  exact (U_4_0 (p := p) (w := w) (y := y) (sg := sg) (ca := ca) (K := K) hX hd hp q1 q2 q3 q4 q5 q6 h ((12 - (0 : Int32).toInt).toNat + 1)) M (0 : Int32) (0 : Int32) hG F0 (by omega) (by omega) (by omega) (by omega) (by omega) (by omega) (by omega) (by omega) (by omega) (by omega) q5 q6 (x_oa_0 (by first | rfl | omega) (by first | rfl | omega)) (by omega)
set_option maxRecDepth 4000 in
set_option maxHeartbeats 0 in
theorem E_6 {X : mm_X} {d : Nat} {M : mm_M} {Q : Option Value → mm_M → Prop} {c : Int32} {b : Int32} {s : Int32} (hX : g_X X) (hd : 0 ≤ d) (hG : g_G M) (h : ∀ (M1 : mm_M), g_G M1 → FR md_b6 M M1 → (((M.2.1 36 2).toInt = -1 ∨ b.toInt < (M.2.1 36 3).toInt ∨ b.toInt = (M.2.1 36 3).toInt ∧ s.toInt < (M.2.1 36 4).toInt) → (M1.2.1 36 2).toInt = c.toInt ∧ (M1.2.1 36 3).toInt = b.toInt ∧ (M1.2.1 36 4).toInt = s.toInt) → (¬ ((M.2.1 36 2).toInt = -1 ∨ b.toInt < (M.2.1 36 3).toInt ∨ b.toInt = (M.2.1 36 3).toInt ∧ s.toInt < (M.2.1 36 4).toInt) → (M1.2.1 36 2).toInt = (M.2.1 36 2).toInt ∧ (M1.2.1 36 3).toInt = (M.2.1 36 3).toInt ∧ (M1.2.1 36 4).toInt = (M.2.1 36 4).toInt) → Q (none) M1) : mm_T X d 6 0 [.ref 36, .int c, .int b, .int s, .null] [] M Q := by
  have F0 : FR md_b6 M M := FR.rf
  refine to_in (pc := 0) rw_6_0 rfl (to_an (pc := 1) rw_6_1 rfl (tt_gI (pc := 2) rw_6_2 (g_o hG rfl) (v := (M.2.1 36 3)) rfl (b_clt (pc := 5) rw_6_5 (A := b.toInt) (B := (M.2.1 36 3).toInt) rfl rfl (fun h1 => ?_) (fun h1 => ?_))))
  · refine to_c (pc := 24) rw_6_24 (x := (1 : Int32)) rfl rfl (to_go (pc := 25) rw_6_25 (to_is (pc := 29) rw_6_29 (ls2 := [.ref 36, .int c, .int b, .int s, .int (1 : Int32)]) rfl rfl (to_an (pc := 31) rw_6_31 rfl (tt_gI (pc := 32) rw_6_32 (g_o hG rfl) (v := (M.2.1 36 2)) rfl (to_c (pc := 35) rw_6_35 (x := (-1 : Int32)) rfl rfl (b_ceq (pc := 36) rw_6_36 (A := (M.2.1 36 2).toInt) (B := -1) rfl rfl (fun h2 => ?_) (fun h2 => ?_)))))))
    · refine to_an (pc := 44) rw_6_44 rfl (to_in (pc := 45) rw_6_45 rfl (s_pI (pc := 46) rw_6_46 hG rfl (fun M4 W3 => ?_)))
      have hG5 := g_wf hG W3 rfl rfl (by decide)
      have F6 := FR.w F0 W3 (show 36 = 36 ∧ 2 ≤ 2 ∧ 2 ≤ 4 by decide)
      refine to_an (pc := 49) rw_6_49 rfl (to_in (pc := 50) rw_6_50 rfl (s_pI (pc := 51) rw_6_51 hG5 rfl (fun M8 W7 => ?_)))
      have hG9 := g_wf hG5 W7 rfl rfl (by decide)
      have F10 := FR.w F6 W7 (show 36 = 36 ∧ 2 ≤ 3 ∧ 3 ≤ 4 by decide)
      refine to_an (pc := 54) rw_6_54 rfl (to_in (pc := 55) rw_6_55 rfl (s_pI (pc := 56) rw_6_56 hG9 rfl (fun M12 W11 => ?_)))
      have hG13 := g_wf hG9 W11 rfl rfl (by decide)
      have F14 := FR.w F10 W11 (show 36 = 36 ∧ 2 ≤ 4 ∧ 4 ≤ 4 by decide)
      refine to_rv (pc := 59) rw_6_59 ?_
      have c_15 : M12.2.1 36 2 = c := (W_n W11 (by decide) (W_n W7 (by decide) (W_e W3)))
      have t_16 : (M12.2.1 36 2).toInt = c.toInt := congrArg Int32.toInt c_15
      have c_17 : M12.2.1 36 3 = b := (W_n W11 (by decide) (W_e W7))
      have t_18 : (M12.2.1 36 3).toInt = b.toInt := congrArg Int32.toInt c_17
      have c_19 : M12.2.1 36 4 = s := (W_e W11)
      have t_20 : (M12.2.1 36 4).toInt = s.toInt := congrArg Int32.toInt c_19
      exact h M12 hG13 F14 (by omega) (by omega)
    · refine to_i (pc := 39) rw_6_39 rfl (b_ieq_f (pc := 41) rw_6_41 (A := 1) rfl (by decide) (to_an (pc := 44) rw_6_44 rfl (to_in (pc := 45) rw_6_45 rfl (s_pI (pc := 46) rw_6_46 hG rfl (fun M22 W21 => ?_)))))
      have hG23 := g_wf hG W21 rfl rfl (by decide)
      have F24 := FR.w F0 W21 (show 36 = 36 ∧ 2 ≤ 2 ∧ 2 ≤ 4 by decide)
      refine to_an (pc := 49) rw_6_49 rfl (to_in (pc := 50) rw_6_50 rfl (s_pI (pc := 51) rw_6_51 hG23 rfl (fun M26 W25 => ?_)))
      have hG27 := g_wf hG23 W25 rfl rfl (by decide)
      have F28 := FR.w F24 W25 (show 36 = 36 ∧ 2 ≤ 3 ∧ 3 ≤ 4 by decide)
      refine to_an (pc := 54) rw_6_54 rfl (to_in (pc := 55) rw_6_55 rfl (s_pI (pc := 56) rw_6_56 hG27 rfl (fun M30 W29 => ?_)))
      have hG31 := g_wf hG27 W29 rfl rfl (by decide)
      have F32 := FR.w F28 W29 (show 36 = 36 ∧ 2 ≤ 4 ∧ 4 ≤ 4 by decide)
      refine to_rv (pc := 59) rw_6_59 ?_
      have c_33 : M30.2.1 36 2 = c := (W_n W29 (by decide) (W_n W25 (by decide) (W_e W21)))
      have t_34 : (M30.2.1 36 2).toInt = c.toInt := congrArg Int32.toInt c_33
      have c_35 : M30.2.1 36 3 = b := (W_n W29 (by decide) (W_e W25))
      have t_36 : (M30.2.1 36 3).toInt = b.toInt := congrArg Int32.toInt c_35
      have c_37 : M30.2.1 36 4 = s := (W_e W29)
      have t_38 : (M30.2.1 36 4).toInt = s.toInt := congrArg Int32.toInt c_37
      exact h M30 hG31 F32 (by omega) (by omega)
  · refine to_in (pc := 8) rw_6_8 rfl (to_an (pc := 9) rw_6_9 rfl (tt_gI (pc := 10) rw_6_10 (g_o hG rfl) (v := (M.2.1 36 3)) rfl (b_cne (pc := 13) rw_6_13 (A := b.toInt) (B := (M.2.1 36 3).toInt) rfl rfl (fun h39 => ?_) (fun h39 => ?_))))
    · refine to_c (pc := 28) rw_6_28 (x := (0 : Int32)) rfl rfl (to_is (pc := 29) rw_6_29 (ls2 := [.ref 36, .int c, .int b, .int s, .int (0 : Int32)]) rfl rfl (to_an (pc := 31) rw_6_31 rfl (tt_gI (pc := 32) rw_6_32 (g_o hG rfl) (v := (M.2.1 36 2)) rfl (to_c (pc := 35) rw_6_35 (x := (-1 : Int32)) rfl rfl (b_ceq (pc := 36) rw_6_36 (A := (M.2.1 36 2).toInt) (B := -1) rfl rfl (fun h40 => ?_) (fun h40 => ?_))))))
      · refine to_an (pc := 44) rw_6_44 rfl (to_in (pc := 45) rw_6_45 rfl (s_pI (pc := 46) rw_6_46 hG rfl (fun M42 W41 => ?_)))
        have hG43 := g_wf hG W41 rfl rfl (by decide)
        have F44 := FR.w F0 W41 (show 36 = 36 ∧ 2 ≤ 2 ∧ 2 ≤ 4 by decide)
        refine to_an (pc := 49) rw_6_49 rfl (to_in (pc := 50) rw_6_50 rfl (s_pI (pc := 51) rw_6_51 hG43 rfl (fun M46 W45 => ?_)))
        have hG47 := g_wf hG43 W45 rfl rfl (by decide)
        have F48 := FR.w F44 W45 (show 36 = 36 ∧ 2 ≤ 3 ∧ 3 ≤ 4 by decide)
        refine to_an (pc := 54) rw_6_54 rfl (to_in (pc := 55) rw_6_55 rfl (s_pI (pc := 56) rw_6_56 hG47 rfl (fun M50 W49 => ?_)))
        have hG51 := g_wf hG47 W49 rfl rfl (by decide)
        have F52 := FR.w F48 W49 (show 36 = 36 ∧ 2 ≤ 4 ∧ 4 ≤ 4 by decide)
        refine to_rv (pc := 59) rw_6_59 ?_
        have c_53 : M50.2.1 36 2 = c := (W_n W49 (by decide) (W_n W45 (by decide) (W_e W41)))
        have t_54 : (M50.2.1 36 2).toInt = c.toInt := congrArg Int32.toInt c_53
        have c_55 : M50.2.1 36 3 = b := (W_n W49 (by decide) (W_e W45))
        have t_56 : (M50.2.1 36 3).toInt = b.toInt := congrArg Int32.toInt c_55
        have c_57 : M50.2.1 36 4 = s := (W_e W49)
        have t_58 : (M50.2.1 36 4).toInt = s.toInt := congrArg Int32.toInt c_57
        exact h M50 hG51 F52 (by omega) (by omega)
      · refine to_i (pc := 39) rw_6_39 rfl (b_ieq_t (pc := 41) rw_6_41 (A := 0) rfl (by decide) (to_rv (pc := 59) rw_6_59 ?_))
        exact h M hG F0 (by omega) (by omega)
    · refine to_in (pc := 16) rw_6_16 rfl (to_an (pc := 17) rw_6_17 rfl (tt_gI (pc := 18) rw_6_18 (g_o hG rfl) (v := (M.2.1 36 4)) rfl (b_cge (pc := 21) rw_6_21 (A := s.toInt) (B := (M.2.1 36 4).toInt) rfl rfl (fun h59 => ?_) (fun h59 => ?_))))
      · refine to_c (pc := 28) rw_6_28 (x := (0 : Int32)) rfl rfl (to_is (pc := 29) rw_6_29 (ls2 := [.ref 36, .int c, .int b, .int s, .int (0 : Int32)]) rfl rfl (to_an (pc := 31) rw_6_31 rfl (tt_gI (pc := 32) rw_6_32 (g_o hG rfl) (v := (M.2.1 36 2)) rfl (to_c (pc := 35) rw_6_35 (x := (-1 : Int32)) rfl rfl (b_ceq (pc := 36) rw_6_36 (A := (M.2.1 36 2).toInt) (B := -1) rfl rfl (fun h60 => ?_) (fun h60 => ?_))))))
        · refine to_an (pc := 44) rw_6_44 rfl (to_in (pc := 45) rw_6_45 rfl (s_pI (pc := 46) rw_6_46 hG rfl (fun M62 W61 => ?_)))
          have hG63 := g_wf hG W61 rfl rfl (by decide)
          have F64 := FR.w F0 W61 (show 36 = 36 ∧ 2 ≤ 2 ∧ 2 ≤ 4 by decide)
          refine to_an (pc := 49) rw_6_49 rfl (to_in (pc := 50) rw_6_50 rfl (s_pI (pc := 51) rw_6_51 hG63 rfl (fun M66 W65 => ?_)))
          have hG67 := g_wf hG63 W65 rfl rfl (by decide)
          have F68 := FR.w F64 W65 (show 36 = 36 ∧ 2 ≤ 3 ∧ 3 ≤ 4 by decide)
          refine to_an (pc := 54) rw_6_54 rfl (to_in (pc := 55) rw_6_55 rfl (s_pI (pc := 56) rw_6_56 hG67 rfl (fun M70 W69 => ?_)))
          have hG71 := g_wf hG67 W69 rfl rfl (by decide)
          have F72 := FR.w F68 W69 (show 36 = 36 ∧ 2 ≤ 4 ∧ 4 ≤ 4 by decide)
          refine to_rv (pc := 59) rw_6_59 ?_
          have c_73 : M70.2.1 36 2 = c := (W_n W69 (by decide) (W_n W65 (by decide) (W_e W61)))
          have t_74 : (M70.2.1 36 2).toInt = c.toInt := congrArg Int32.toInt c_73
          have c_75 : M70.2.1 36 3 = b := (W_n W69 (by decide) (W_e W65))
          have t_76 : (M70.2.1 36 3).toInt = b.toInt := congrArg Int32.toInt c_75
          have c_77 : M70.2.1 36 4 = s := (W_e W69)
          have t_78 : (M70.2.1 36 4).toInt = s.toInt := congrArg Int32.toInt c_77
          exact h M70 hG71 F72 (by omega) (by omega)
        · refine to_i (pc := 39) rw_6_39 rfl (b_ieq_t (pc := 41) rw_6_41 (A := 0) rfl (by decide) (to_rv (pc := 59) rw_6_59 ?_))
          exact h M hG F0 (by omega) (by omega)
      · refine to_c (pc := 24) rw_6_24 (x := (1 : Int32)) rfl rfl (to_go (pc := 25) rw_6_25 (to_is (pc := 29) rw_6_29 (ls2 := [.ref 36, .int c, .int b, .int s, .int (1 : Int32)]) rfl rfl (to_an (pc := 31) rw_6_31 rfl (tt_gI (pc := 32) rw_6_32 (g_o hG rfl) (v := (M.2.1 36 2)) rfl (to_c (pc := 35) rw_6_35 (x := (-1 : Int32)) rfl rfl (b_ceq (pc := 36) rw_6_36 (A := (M.2.1 36 2).toInt) (B := -1) rfl rfl (fun h79 => ?_) (fun h79 => ?_)))))))
        · refine to_an (pc := 44) rw_6_44 rfl (to_in (pc := 45) rw_6_45 rfl (s_pI (pc := 46) rw_6_46 hG rfl (fun M81 W80 => ?_)))
          have hG82 := g_wf hG W80 rfl rfl (by decide)
          have F83 := FR.w F0 W80 (show 36 = 36 ∧ 2 ≤ 2 ∧ 2 ≤ 4 by decide)
          refine to_an (pc := 49) rw_6_49 rfl (to_in (pc := 50) rw_6_50 rfl (s_pI (pc := 51) rw_6_51 hG82 rfl (fun M85 W84 => ?_)))
          have hG86 := g_wf hG82 W84 rfl rfl (by decide)
          have F87 := FR.w F83 W84 (show 36 = 36 ∧ 2 ≤ 3 ∧ 3 ≤ 4 by decide)
          refine to_an (pc := 54) rw_6_54 rfl (to_in (pc := 55) rw_6_55 rfl (s_pI (pc := 56) rw_6_56 hG86 rfl (fun M89 W88 => ?_)))
          have hG90 := g_wf hG86 W88 rfl rfl (by decide)
          have F91 := FR.w F87 W88 (show 36 = 36 ∧ 2 ≤ 4 ∧ 4 ≤ 4 by decide)
          refine to_rv (pc := 59) rw_6_59 ?_
          have c_92 : M89.2.1 36 2 = c := (W_n W88 (by decide) (W_n W84 (by decide) (W_e W80)))
          have t_93 : (M89.2.1 36 2).toInt = c.toInt := congrArg Int32.toInt c_92
          have c_94 : M89.2.1 36 3 = b := (W_n W88 (by decide) (W_e W84))
          have t_95 : (M89.2.1 36 3).toInt = b.toInt := congrArg Int32.toInt c_94
          have c_96 : M89.2.1 36 4 = s := (W_e W88)
          have t_97 : (M89.2.1 36 4).toInt = s.toInt := congrArg Int32.toInt c_96
          exact h M89 hG90 F91 (by omega) (by omega)
        · refine to_i (pc := 39) rw_6_39 rfl (b_ieq_f (pc := 41) rw_6_41 (A := 1) rfl (by decide) (to_an (pc := 44) rw_6_44 rfl (to_in (pc := 45) rw_6_45 rfl (s_pI (pc := 46) rw_6_46 hG rfl (fun M99 W98 => ?_)))))
          have hG100 := g_wf hG W98 rfl rfl (by decide)
          have F101 := FR.w F0 W98 (show 36 = 36 ∧ 2 ≤ 2 ∧ 2 ≤ 4 by decide)
          refine to_an (pc := 49) rw_6_49 rfl (to_in (pc := 50) rw_6_50 rfl (s_pI (pc := 51) rw_6_51 hG100 rfl (fun M103 W102 => ?_)))
          have hG104 := g_wf hG100 W102 rfl rfl (by decide)
          have F105 := FR.w F101 W102 (show 36 = 36 ∧ 2 ≤ 3 ∧ 3 ≤ 4 by decide)
          refine to_an (pc := 54) rw_6_54 rfl (to_in (pc := 55) rw_6_55 rfl (s_pI (pc := 56) rw_6_56 hG104 rfl (fun M107 W106 => ?_)))
          have hG108 := g_wf hG104 W106 rfl rfl (by decide)
          have F109 := FR.w F105 W106 (show 36 = 36 ∧ 2 ≤ 4 ∧ 4 ≤ 4 by decide)
          refine to_rv (pc := 59) rw_6_59 ?_
          have c_110 : M107.2.1 36 2 = c := (W_n W106 (by decide) (W_n W102 (by decide) (W_e W98)))
          have t_111 : (M107.2.1 36 2).toInt = c.toInt := congrArg Int32.toInt c_110
          have c_112 : M107.2.1 36 3 = b := (W_n W106 (by decide) (W_e W102))
          have t_113 : (M107.2.1 36 3).toInt = b.toInt := congrArg Int32.toInt c_112
          have c_114 : M107.2.1 36 4 = s := (W_e W106)
          have t_115 : (M107.2.1 36 4).toInt = s.toInt := congrArg Int32.toInt c_114
          exact h M107 hG108 F109 (by omega) (by omega)
