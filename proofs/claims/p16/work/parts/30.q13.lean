set_option maxRecDepth 4000 in
set_option maxHeartbeats 0 in
theorem E_77 {X : mm_X} {d : Nat} {M : mm_M} {Q : Option Value → mm_M → Prop} {x : Int32} (hX : g_X X) (hd : 0 ≤ d) (hG : g_G M) (q1 : (M.2.1 1 1).toInt ≤ 496) (h : ∀ (M1 : mm_M), g_G M1 → FR md_a M M1 → ((M1.2.1 1 1).toInt = (M.2.1 1 1).toInt + 4) → (AP M M1 x) → Q (none) M1) : mm_T X d 77 0 [.ref 1, .int x, .null] [] M Q := by
  have F0 : FR md_a M M := FR.rf
  have b_1 := g_b hG (a := 1) (i := 1) (lo := 0) (hi := 500) rfl rfl
  refine to_c (pc := 0) rw_77_0 (x := (24 : Int32)) rfl rfl (to_isn (pc := 2) rw_77_2 (ls2 := [.ref 1, .int x, .int (24 : Int32)]) rfl rfl (to_in (pc := 3) rw_77_3 rfl (b_ilt_f (pc := 4) rw_77_4 (A := 24) rfl (by decide) (to_an (pc := 7) rw_77_7 rfl (tt_gI (pc := 8) rw_77_8 (g_o hG rfl) (v := (M.2.1 1 1)) rfl (to_an (pc := 11) rw_77_11 rfl (s_gR (pc := 12) rw_77_12 hG rfl (v := 2) rfl (s_len (pc := 15) rw_77_15 hG rfl rfl (n := 500) rfl (v := (500 : Int32)) rfl (b_cge_f (pc := 16) rw_77_16 (A := (M.2.1 1 1).toInt) (B := 500) rfl rfl (by omega) (to_an (pc := 19) rw_77_19 rfl (s_gR (pc := 20) rw_77_20 hG rfl (v := 2) rfl ?_)))))))))))
  refine to_an (pc := 23) rw_77_23 rfl (tt_gI (pc := 24) rw_77_24 (g_o hG rfl) (v := (M.2.1 1 1)) rfl (to_in (pc := 27) rw_77_27 rfl (to_in (pc := 28) rw_77_28 rfl (s_opE (pc := 29) rw_77_29 (w := x >>> (24 : Int32)) rfl (fun v2 e3 => to_i2b (pc := 30) rw_77_30 (v := (v2.toInt8.toInt32)) rfl (s_basE (pc := 31) rw_77_31 hG rfl (n := 500) rfl (A := (M.2.1 1 1).toInt) rfl (by omega) (by omega) (fun M5 W4 => ?_)))))))
  have hG6 := g_wf hG W4 rfl rfl (by decide)
  have F7 := FR.w F0 W4 (show 2 = 1 ∧ ((M.2.1 1 1).toInt).toNat = 1 ∨ 2 = 2 by omega)
  have k_8 : (24 : Int32).toInt = 24 := rfl
  have z_9 := x_by_b (x := x) (v := (24 : Int32)) (j := 0) (by omega) e3
  refine to_an (pc := 32) rw_77_32 rfl (to_dupr (pc := 33) rw_77_33 ?_)
  have c_10 : M5.2.1 1 1 = (M.2.1 1 1) := (W_n W4 (fun z => absurd z.1 (by decide)) rfl)
  refine tt_gI (pc := 34) rw_77_34 (g_o hG6 rfl) (v := (M.2.1 1 1)) c_10 (to_c (pc := 37) rw_77_37 (x := (1 : Int32)) rfl rfl (s_add (pc := 38) rw_77_38 (A := (M.2.1 1 1).toInt) (B := 1) rfl rfl (by omega) (fun v11 e12 => s_pI (pc := 39) rw_77_39 hG6 rfl (fun M14 W13 => ?_))))
  have hG15 := g_w hG6 W13 (A := v11.toInt) rfl (lo := 0) (hi := 500) rfl rfl (by omega) (by decide)
  have F16 := FR.w F7 W13 (show 1 = 1 ∧ 1 = 1 ∨ 1 = 2 by decide)
  refine s_inc (pc := 42) rw_77_42 (ls2 := fun v => [.ref 1, .int x, .int v]) rfl rfl (fun _ => rfl) (A := 24) (B := -8) rfl rfl (by omega) (fun v17 e18 => to_go (pc := 45) rw_77_45 (to_in (pc := 3) rw_77_3 rfl (b_ilt_f (pc := 4) rw_77_4 (A := v17.toInt) rfl (by omega) (to_an (pc := 7) rw_77_7 rfl ?_))))
  have c_19 : M14.2.1 1 1 = v11 := (W_e W13)
  refine tt_gI (pc := 8) rw_77_8 (g_o hG15 rfl) (v := v11) c_19 (to_an (pc := 11) rw_77_11 rfl (s_gR (pc := 12) rw_77_12 hG15 rfl (v := 2) rfl (s_len (pc := 15) rw_77_15 hG15 rfl rfl (n := 500) rfl (v := (500 : Int32)) rfl (b_cge_f (pc := 16) rw_77_16 (A := v11.toInt) (B := 500) rfl rfl (by omega) (to_an (pc := 19) rw_77_19 rfl (s_gR (pc := 20) rw_77_20 hG15 rfl (v := 2) rfl (to_an (pc := 23) rw_77_23 rfl (tt_gI (pc := 24) rw_77_24 (g_o hG15 rfl) (v := v11) c_19 (to_in (pc := 27) rw_77_27 rfl (to_in (pc := 28) rw_77_28 rfl (s_opE (pc := 29) rw_77_29 (w := x >>> v17) rfl (fun v20 e21 => ?_))))))))))))
  refine to_i2b (pc := 30) rw_77_30 (v := (v20.toInt8.toInt32)) rfl (s_basE (pc := 31) rw_77_31 hG15 rfl (n := 500) rfl (A := v11.toInt) rfl (by omega) (by omega) (fun M23 W22 => ?_))
  have hG24 := g_wf hG15 W22 rfl rfl (by decide)
  have F25 := FR.w F16 W22 (show 2 = 1 ∧ (v11.toInt).toNat = 1 ∨ 2 = 2 by omega)
  have z_26 := x_by_b (x := x) (v := v17) (j := 1) (by omega) e21
  refine to_an (pc := 32) rw_77_32 rfl (to_dupr (pc := 33) rw_77_33 ?_)
  have c_27 : M23.2.1 1 1 = v11 := (W_n W22 (fun z => absurd z.1 (by decide)) c_19)
  refine tt_gI (pc := 34) rw_77_34 (g_o hG24 rfl) (v := v11) c_27 (to_c (pc := 37) rw_77_37 (x := (1 : Int32)) rfl rfl (s_add (pc := 38) rw_77_38 (A := v11.toInt) (B := 1) rfl rfl (by omega) (fun v28 e29 => s_pI (pc := 39) rw_77_39 hG24 rfl (fun M31 W30 => ?_))))
  have hG32 := g_w hG24 W30 (A := v28.toInt) rfl (lo := 0) (hi := 500) rfl rfl (by omega) (by decide)
  have F33 := FR.w F25 W30 (show 1 = 1 ∧ 1 = 1 ∨ 1 = 2 by decide)
  refine s_inc (pc := 42) rw_77_42 (ls2 := fun v => [.ref 1, .int x, .int v]) rfl rfl (fun _ => rfl) (A := v17.toInt) (B := -8) rfl rfl (by omega) (fun v34 e35 => to_go (pc := 45) rw_77_45 (to_in (pc := 3) rw_77_3 rfl (b_ilt_f (pc := 4) rw_77_4 (A := v34.toInt) rfl (by omega) (to_an (pc := 7) rw_77_7 rfl ?_))))
  have c_36 : M31.2.1 1 1 = v28 := (W_e W30)
  refine tt_gI (pc := 8) rw_77_8 (g_o hG32 rfl) (v := v28) c_36 (to_an (pc := 11) rw_77_11 rfl (s_gR (pc := 12) rw_77_12 hG32 rfl (v := 2) rfl (s_len (pc := 15) rw_77_15 hG32 rfl rfl (n := 500) rfl (v := (500 : Int32)) rfl (b_cge_f (pc := 16) rw_77_16 (A := v28.toInt) (B := 500) rfl rfl (by omega) (to_an (pc := 19) rw_77_19 rfl (s_gR (pc := 20) rw_77_20 hG32 rfl (v := 2) rfl (to_an (pc := 23) rw_77_23 rfl (tt_gI (pc := 24) rw_77_24 (g_o hG32 rfl) (v := v28) c_36 (to_in (pc := 27) rw_77_27 rfl (to_in (pc := 28) rw_77_28 rfl (s_opE (pc := 29) rw_77_29 (w := x >>> v34) rfl (fun v37 e38 => ?_))))))))))))
  refine to_i2b (pc := 30) rw_77_30 (v := (v37.toInt8.toInt32)) rfl (s_basE (pc := 31) rw_77_31 hG32 rfl (n := 500) rfl (A := v28.toInt) rfl (by omega) (by omega) (fun M40 W39 => ?_))
  have hG41 := g_wf hG32 W39 rfl rfl (by decide)
  have F42 := FR.w F33 W39 (show 2 = 1 ∧ (v28.toInt).toNat = 1 ∨ 2 = 2 by omega)
  have z_43 := x_by_b (x := x) (v := v34) (j := 2) (by omega) e38
  refine to_an (pc := 32) rw_77_32 rfl (to_dupr (pc := 33) rw_77_33 ?_)
  have c_44 : M40.2.1 1 1 = v28 := (W_n W39 (fun z => absurd z.1 (by decide)) c_36)
  refine tt_gI (pc := 34) rw_77_34 (g_o hG41 rfl) (v := v28) c_44 (to_c (pc := 37) rw_77_37 (x := (1 : Int32)) rfl rfl (s_add (pc := 38) rw_77_38 (A := v28.toInt) (B := 1) rfl rfl (by omega) (fun v45 e46 => s_pI (pc := 39) rw_77_39 hG41 rfl (fun M48 W47 => ?_))))
  have hG49 := g_w hG41 W47 (A := v45.toInt) rfl (lo := 0) (hi := 500) rfl rfl (by omega) (by decide)
  have F50 := FR.w F42 W47 (show 1 = 1 ∧ 1 = 1 ∨ 1 = 2 by decide)
  refine s_inc (pc := 42) rw_77_42 (ls2 := fun v => [.ref 1, .int x, .int v]) rfl rfl (fun _ => rfl) (A := v34.toInt) (B := -8) rfl rfl (by omega) (fun v51 e52 => to_go (pc := 45) rw_77_45 (to_in (pc := 3) rw_77_3 rfl (b_ilt_f (pc := 4) rw_77_4 (A := v51.toInt) rfl (by omega) (to_an (pc := 7) rw_77_7 rfl ?_))))
  have c_53 : M48.2.1 1 1 = v45 := (W_e W47)
  refine tt_gI (pc := 8) rw_77_8 (g_o hG49 rfl) (v := v45) c_53 (to_an (pc := 11) rw_77_11 rfl (s_gR (pc := 12) rw_77_12 hG49 rfl (v := 2) rfl (s_len (pc := 15) rw_77_15 hG49 rfl rfl (n := 500) rfl (v := (500 : Int32)) rfl (b_cge_f (pc := 16) rw_77_16 (A := v45.toInt) (B := 500) rfl rfl (by omega) (to_an (pc := 19) rw_77_19 rfl (s_gR (pc := 20) rw_77_20 hG49 rfl (v := 2) rfl (to_an (pc := 23) rw_77_23 rfl (tt_gI (pc := 24) rw_77_24 (g_o hG49 rfl) (v := v45) c_53 (to_in (pc := 27) rw_77_27 rfl (to_in (pc := 28) rw_77_28 rfl (s_opE (pc := 29) rw_77_29 (w := x >>> v51) rfl (fun v54 e55 => ?_))))))))))))
  refine to_i2b (pc := 30) rw_77_30 (v := (v54.toInt8.toInt32)) rfl (s_basE (pc := 31) rw_77_31 hG49 rfl (n := 500) rfl (A := v45.toInt) rfl (by omega) (by omega) (fun M57 W56 => ?_))
  have hG58 := g_wf hG49 W56 rfl rfl (by decide)
  have F59 := FR.w F50 W56 (show 2 = 1 ∧ (v45.toInt).toNat = 1 ∨ 2 = 2 by omega)
  have z_60 := x_by_b (x := x) (v := v51) (j := 3) (by omega) e55
  refine to_an (pc := 32) rw_77_32 rfl (to_dupr (pc := 33) rw_77_33 ?_)
  have c_61 : M57.2.1 1 1 = v45 := (W_n W56 (fun z => absurd z.1 (by decide)) c_53)
  refine tt_gI (pc := 34) rw_77_34 (g_o hG58 rfl) (v := v45) c_61 (to_c (pc := 37) rw_77_37 (x := (1 : Int32)) rfl rfl (s_add (pc := 38) rw_77_38 (A := v45.toInt) (B := 1) rfl rfl (by omega) (fun v62 e63 => s_pI (pc := 39) rw_77_39 hG58 rfl (fun M65 W64 => ?_))))
  have hG66 := g_w hG58 W64 (A := v62.toInt) rfl (lo := 0) (hi := 500) rfl rfl (by omega) (by decide)
  have F67 := FR.w F59 W64 (show 1 = 1 ∧ 1 = 1 ∨ 1 = 2 by decide)
  refine s_inc (pc := 42) rw_77_42 (ls2 := fun v => [.ref 1, .int x, .int v]) rfl rfl (fun _ => rfl) (A := v51.toInt) (B := -8) rfl rfl (by omega) (fun v68 e69 => to_go (pc := 45) rw_77_45 (to_in (pc := 3) rw_77_3 rfl (b_ilt_t (pc := 4) rw_77_4 (A := v68.toInt) rfl (by omega) (to_rv (pc := 48) rw_77_48 ?_))))
  have c_70 : M65.2.1 1 1 = v62 := (W_e W64)
  have t_71 : (M65.2.1 1 1).toInt = v62.toInt := congrArg Int32.toInt c_70
  have z_72 : M65.2.1 2 ((M.2.1 1 1).toInt.toNat + 0) &&& 255 = x_by x 0 := by rw [show (M.2.1 1 1).toInt.toNat + 0 = ((M.2.1 1 1).toInt).toNat by omega, show M65.2.1 2 ((M.2.1 1 1).toInt).toNat = _ from (W_n W64 (by omega) (W_n W56 (by omega) (W_n W47 (by omega) (W_n W39 (by omega) (W_n W30 (by omega) (W_n W22 (by omega) (W_n W13 (by omega) (W_e W4))))))))]; exact z_9
  have z_73 : M65.2.1 2 ((M.2.1 1 1).toInt.toNat + 1) &&& 255 = x_by x 1 := by rw [show (M.2.1 1 1).toInt.toNat + 1 = (v11.toInt).toNat by omega, show M65.2.1 2 (v11.toInt).toNat = _ from (W_n W64 (by omega) (W_n W56 (by omega) (W_n W47 (by omega) (W_n W39 (by omega) (W_n W30 (by omega) (W_e W22))))))]; exact z_26
  have z_74 : M65.2.1 2 ((M.2.1 1 1).toInt.toNat + 2) &&& 255 = x_by x 2 := by rw [show (M.2.1 1 1).toInt.toNat + 2 = (v28.toInt).toNat by omega, show M65.2.1 2 (v28.toInt).toNat = _ from (W_n W64 (by omega) (W_n W56 (by omega) (W_n W47 (by omega) (W_e W39))))]; exact z_43
  have z_75 : M65.2.1 2 ((M.2.1 1 1).toInt.toNat + 3) &&& 255 = x_by x 3 := by rw [show (M.2.1 1 1).toInt.toNat + 3 = (v45.toInt).toNat by omega, show M65.2.1 2 (v45.toInt).toNat = _ from (W_n W64 (by omega) (W_e W56))]; exact z_60
  exact h M65 hG66 F67 (by omega) ⟨by omega, fun k hk => (W_n W64 (by omega) (W_n W56 (by omega) (W_n W47 (by omega) (W_n W39 (by omega) (W_n W30 (by omega) (W_n W22 (by omega) (W_n W13 (by omega) (W_n W4 (by omega) rfl)))))))), fun j hj => by rcases (show j = 0 ∨ j = 1 ∨ j = 2 ∨ j = 3 by omega) with rfl | rfl | rfl | rfl; exact z_72; exact z_73; exact z_74; exact z_75⟩
set_option maxRecDepth 4000 in
set_option maxHeartbeats 0 in
theorem E_110 {X : mm_X} {d : Nat} {M : mm_M} {Q : Option Value → mm_M → Prop} {a : Int32} {b : Int32} {c : Int32} {x : Int32} {e : Int32} (hX : g_X X) (hd : 1 ≤ d) (hG : g_G M) (h : ∀ (r : Int32) (M1 : mm_M), g_G M1 → FR md_a M M1 → (480 < (M.2.1 1 1).toInt → r.toInt = -1 ∧ (M1.2.1 1 1).toInt = (M.2.1 1 1).toInt) → ((M.2.1 1 1).toInt ≤ 480 → r.toInt = (M.2.1 1 1).toInt + 20 ∧ (M1.2.1 1 1).toInt = (M.2.1 1 1).toInt + 20) → (FD M M1 a b c x e) → Q (some (.int r)) M1) : mm_T X d 110 0 [.ref 0, .int a, .int b, .int c, .int x, .int e] [] M Q := by
  have F0 : FR md_a M M := FR.rf
  have b_1 := g_b hG (a := 1) (i := 1) (lo := 0) (hi := 500) rfl rfl
  refine to_an (pc := 0) rw_110_0 rfl (s_gR (pc := 1) rw_110_1 hG rfl (v := 1) rfl (tt_gI (pc := 4) rw_110_4 (g_o hG rfl) (v := (M.2.1 1 1)) rfl (to_c (pc := 7) rw_110_7 (x := (480 : Int32)) rfl rfl (b_cle (pc := 10) rw_110_10 (A := (M.2.1 1 1).toInt) (B := 480) rfl rfl (fun h2 => ?_) (fun h2 => ?_)))))
  · refine to_an (pc := 15) rw_110_15 rfl (s_gR (pc := 16) rw_110_16 hG rfl (v := 1) rfl (to_in (pc := 19) rw_110_19 rfl (s_v (pc := 20) rw_110_20 (dp0 hd (by decide)) (ls0 := [.ref 1, .int a, .null]) rfl (Nat.le_of_ble_eq_true rfl) (Nat.le_of_ble_eq_true rfl) rfl (to_rc rfl rfl rfl (g_o hG rfl)) rfl (E_77 hX (dp1 hd (by decide)) hG (by omega) (x := a) (fun M7 hG4 F3 p_5 p_6 => ?_)))))
    have F8 := FR.c F0 F3 tg_179
    have b_9 := g_b hG4 (a := 1) (i := 1) (lo := 0) (hi := 500) rfl rfl
    refine to_an (pc := 23) rw_110_23 rfl (s_gR (pc := 24) rw_110_24 hG4 rfl (v := 1) rfl (to_in (pc := 27) rw_110_27 rfl (s_v (pc := 28) rw_110_28 (dp0 hd (by decide)) (ls0 := [.ref 1, .int b, .null]) rfl (Nat.le_of_ble_eq_true rfl) (Nat.le_of_ble_eq_true rfl) rfl (to_rc rfl rfl rfl (g_o hG4 rfl)) rfl (E_77 hX (dp1 hd (by decide)) hG4 (by omega) (x := b) (fun M14 hG11 F10 p_12 p_13 => ?_)))))
    have F15 := FR.c F8 F10 tg_179
    have b_16 := g_b hG11 (a := 1) (i := 1) (lo := 0) (hi := 500) rfl rfl
    refine to_an (pc := 31) rw_110_31 rfl (s_gR (pc := 32) rw_110_32 hG11 rfl (v := 1) rfl (to_in (pc := 35) rw_110_35 rfl (s_v (pc := 36) rw_110_36 (dp0 hd (by decide)) (ls0 := [.ref 1, .int c, .null]) rfl (Nat.le_of_ble_eq_true rfl) (Nat.le_of_ble_eq_true rfl) rfl (to_rc rfl rfl rfl (g_o hG11 rfl)) rfl (E_77 hX (dp1 hd (by decide)) hG11 (by omega) (x := c) (fun M21 hG18 F17 p_19 p_20 => ?_)))))
    have F22 := FR.c F15 F17 tg_179
    have b_23 := g_b hG18 (a := 1) (i := 1) (lo := 0) (hi := 500) rfl rfl
    refine to_an (pc := 39) rw_110_39 rfl (s_gR (pc := 40) rw_110_40 hG18 rfl (v := 1) rfl (to_i (pc := 43) rw_110_43 rfl (s_v (pc := 45) rw_110_45 (dp0 hd (by decide)) (ls0 := [.ref 1, .int x, .null]) rfl (Nat.le_of_ble_eq_true rfl) (Nat.le_of_ble_eq_true rfl) rfl (to_rc rfl rfl rfl (g_o hG18 rfl)) rfl (E_77 hX (dp1 hd (by decide)) hG18 (by omega) (x := x) (fun M28 hG25 F24 p_26 p_27 => ?_)))))
    have F29 := FR.c F22 F24 tg_179
    have b_30 := g_b hG25 (a := 1) (i := 1) (lo := 0) (hi := 500) rfl rfl
    refine to_an (pc := 48) rw_110_48 rfl (s_gR (pc := 49) rw_110_49 hG25 rfl (v := 1) rfl (to_i (pc := 52) rw_110_52 rfl (s_v (pc := 54) rw_110_54 (dp0 hd (by decide)) (ls0 := [.ref 1, .int e, .null]) rfl (Nat.le_of_ble_eq_true rfl) (Nat.le_of_ble_eq_true rfl) rfl (to_rc rfl rfl rfl (g_o hG25 rfl)) rfl (E_77 hX (dp1 hd (by decide)) hG25 (by omega) (x := e) (fun M35 hG32 F31 p_33 p_34 => ?_)))))
    have F36 := FR.c F29 F31 tg_179
    have b_37 := g_b hG32 (a := 1) (i := 1) (lo := 0) (hi := 500) rfl rfl
    refine to_an (pc := 57) rw_110_57 rfl (s_gR (pc := 58) rw_110_58 hG32 rfl (v := 1) rfl (tt_gI (pc := 61) rw_110_61 (g_o hG32 rfl) (v := (M35.2.1 1 1)) rfl (to_r0 (pc := 64) rw_110_64 ?_)))
    exact h (M35.2.1 1 1) M35 hG32 F36 (by omega) (by omega) (FD_5 (by omega) p_6 p_13 p_20 p_27 p_34)
  · refine to_c (pc := 13) rw_110_13 (x := (-1 : Int32)) rfl rfl (to_r0 (pc := 14) rw_110_14 ?_)
    have k_38 : (-1 : Int32).toInt = -1 := rfl
    exact h (-1 : Int32) M hG F0 (by omega) (by omega) (FD_0 (by omega))
set_option maxRecDepth 4000 in
set_option maxHeartbeats 0 in
theorem U_148_0 {X : mm_X} {d : Nat} {M : mm_M} {Q : Option Value → mm_M → Prop} {a : Int32} {b : Int32} {c : Int32} {x : Int32} {e : Int32} (hX : g_X X) (hd : 0 ≤ d) (h : ∀ (r : Int32) (M1 : mm_M), g_G M1 → FR md_fe M M1 → (480 < (M.2.1 77 1).toInt → r.toInt = -1 ∧ (M1.2.1 77 1).toInt = (M.2.1 77 1).toInt) → ((M.2.1 77 1).toInt ≤ 480 → r.toInt = (M.2.1 77 1).toInt + 20 ∧ (M1.2.1 77 1).toInt = (M.2.1 77 1).toInt + 20) → (FDr M M1 a b c x e) → Q (some (.int r)) M1) : ∀ nn9 : Nat, (∀ (N : mm_M) (x6 : Int32) (u7 : Value), g_G N → FR md_fe M N → (0 ≤ x6.toInt) → (x6.toInt ≤ 20) → ((N.2.1 77 1).toInt = (M.2.1 77 1).toInt) → ((N.2.1 77 1).toInt ≤ 480) → (0 ≤ (N.2.1 77 1).toInt) → (∀ j : Nat, (j : Int) < x6.toInt → N.2.1 78 ((M.2.1 77 1).toInt.toNat + j) = x_fb a b c x e j) → (∀ j : Nat, (j : Int) < (M.2.1 77 1).toInt → N.2.1 78 j = M.2.1 78 j) → 20 - x6.toInt < (nn9 : Int) → mm_T X d 147 23 [.ref 77, .int a, .int b, .int c, .int x, .int e, .int x6, u7] [] N Q) := by
  intro nn9
  induction nn9 with
  | zero =>
    intro N x6 u7 hG F0 g1 g2 g3 g4 g5 g6 g7 hm
    have b_1 := g_b hG (a := 77) (i := 1) (lo := 0) (hi := 500) rfl rfl
    exfalso; omega
  | succ nn9 ih =>
    intro N x6 u7 hG F0 g1 g2 g3 g4 g5 g6 g7 hm
    have b_2 := g_b hG (a := 77) (i := 1) (lo := 0) (hi := 500) rfl rfl
    refine to_i (pc := 23) rw_148_23 rfl (to_c (pc := 25) rw_148_25 (x := (20 : Int32)) rfl rfl (b_cge (pc := 27) rw_148_27 (A := x6.toInt) (B := 20) rfl rfl (fun h3 => ?_) (fun h3 => ?_)))
    · refine to_an (pc := 113) rw_148_113 rfl (to_dupr (pc := 114) rw_148_114 (tt_gI (pc := 115) rw_148_115 (g_o hG rfl) (v := (N.2.1 77 1)) rfl (to_c (pc := 118) rw_148_118 (x := (20 : Int32)) rfl rfl (s_add (pc := 120) rw_148_120 (A := (N.2.1 77 1).toInt) (B := 20) rfl rfl (by omega) (fun v4 e5 => s_pI (pc := 121) rw_148_121 hG rfl (fun M7 W6 => ?_))))))
      have hG8 := g_w hG W6 (A := v4.toInt) rfl (lo := 0) (hi := 500) rfl rfl (by omega) (by decide)
      have F9 := FR.w F0 W6 (show 77 = 77 ∧ (1 = 1 ∨ 1 = 2) ∨ 77 = 78 by decide)
      refine to_an (pc := 124) rw_148_124 rfl ?_
      have c_10 : M7.2.1 77 1 = v4 := (W_e W6)
      refine tt_gI (pc := 125) rw_148_125 (g_o hG8 rfl) (v := v4) c_10 (to_r0 (pc := 128) rw_148_128 ?_)
      have t_11 : (M7.2.1 77 1).toInt = v4.toInt := congrArg Int32.toInt c_10
      exact h v4 M7 hG8 F9 (by omega) (by omega) ⟨fun k hk => (show M7.2.1 78 k = N.2.1 78 k from (W_n W6 (by omega) rfl)).trans (g7 k hk), fun _ k hk => (show M7.2.1 78 ((M.2.1 77 1).toInt.toNat + k) = N.2.1 78 ((M.2.1 77 1).toInt.toNat + k) from (W_n W6 (by omega) rfl)).trans (g6 k (by omega))⟩
    · refine to_i (pc := 30) rw_148_30 rfl (to_c (pc := 32) rw_148_32 (x := (4 : Int32)) rfl rfl (b_cge (pc := 33) rw_148_33 (A := x6.toInt) (B := 4) rfl rfl (fun h12 => ?_) (fun h12 => ?_)))
      · refine to_i (pc := 40) rw_148_40 rfl (to_c (pc := 42) rw_148_42 (x := (8 : Int32)) rfl rfl (b_cge (pc := 44) rw_148_44 (A := x6.toInt) (B := 8) rfl rfl (fun h13 => ?_) (fun h13 => ?_)))
        · refine to_i (pc := 51) rw_148_51 rfl (to_c (pc := 53) rw_148_53 (x := (12 : Int32)) rfl rfl (b_cge (pc := 55) rw_148_55 (A := x6.toInt) (B := 12) rfl rfl (fun h14 => ?_) (fun h14 => ?_)))
          · refine to_i (pc := 62) rw_148_62 rfl (to_c (pc := 64) rw_148_64 (x := (16 : Int32)) rfl rfl (b_cge (pc := 66) rw_148_66 (A := x6.toInt) (B := 16) rfl rfl (fun h15 => ?_) (fun h15 => ?_)))
            · refine to_i (pc := 74) rw_148_74 rfl (to_is (pc := 76) rw_148_76 (ls2 := [.ref 77, .int a, .int b, .int c, .int x, .int e, .int x6, .int e]) rfl rfl (to_an (pc := 78) rw_148_78 rfl (s_gR (pc := 79) rw_148_79 hG rfl (v := 78) rfl (to_an (pc := 82) rw_148_82 rfl (tt_gI (pc := 83) rw_148_83 (g_o hG rfl) (v := (N.2.1 77 1)) rfl (to_i (pc := 86) rw_148_86 rfl (s_add (pc := 88) rw_148_88 (A := (N.2.1 77 1).toInt) (B := x6.toInt) rfl rfl (by omega) (fun v16 e17 => to_i (pc := 89) rw_148_89 rfl (to_c (pc := 91) rw_148_91 (x := (24 : Int32)) rfl rfl (to_c (pc := 93) rw_148_93 (x := (8 : Int32)) rfl rfl (to_i (pc := 95) rw_148_95 rfl ?_)))))))))))
              refine to_c (pc := 97) rw_148_97 (x := (4 : Int32)) rfl rfl (s_irem (pc := 98) rw_148_98 (A := x6.toInt) (B := 4) rfl rfl (by omega) (by omega) (fun v18 e19 _ => s_mul (pc := 99) rw_148_99 (A := 8) (B := v18.toInt) rfl rfl (by omega) (fun v20 e21 => s_sub (pc := 100) rw_148_100 (A := 24) (B := v20.toInt) rfl rfl (by omega) (fun v22 e23 => s_opE (pc := 101) rw_148_101 (w := e >>> v22) rfl (fun v24 e25 => to_c (pc := 102) rw_148_102 (x := (255 : Int32)) rfl rfl (s_and (pc := 105) rw_148_105 (B := 255) rfl (by omega) (fun v26 e27 _ _ => s_ias (pc := 106) rw_148_106 hG rfl (n := 500) rfl (A := v16.toInt) rfl (by omega) (by omega) (fun M29 W28 => ?_))))))))
              have hG30 := g_w hG W28 (A := v26.toInt) rfl (lo := 0) (hi := 255) rfl rfl (by omega) (by decide)
              have F31 := FR.w F0 W28 (show 78 = 77 ∧ ((v16.toInt).toNat = 1 ∨ (v16.toInt).toNat = 2) ∨ 78 = 78 by omega)
              refine s_inc (pc := 107) rw_148_107 (ls2 := fun v => [.ref 77, .int a, .int b, .int c, .int x, .int e, .int v, .int e]) rfl rfl (fun _ => rfl) (A := x6.toInt) (B := 1) rfl rfl (by omega) (fun v32 e33 => to_go (pc := 110) rw_148_110 ?_)
              have c_34 : M29.2.1 77 1 = (N.2.1 77 1) := (W_n W28 (fun z => absurd z.1 (by decide)) rfl)
              have t_35 : (M29.2.1 77 1).toInt = (N.2.1 77 1).toInt := congrArg Int32.toInt c_34
              have z_36 : v26 = x_fb a b c x e (x6.toInt).toNat := x_fb_i (w := e) (v := v22) (k := x6.toInt) (by omega) (by omega) e25 e27 (x_w_e (by omega))
              exact ih M29 v32 (.int e) hG30 F31 (by omega) (by omega) (by omega) (by omega) (by omega) (fun j hj => by by_cases g9 : (j : Int) < x6.toInt; exact (W_n W28 (by omega) (g6 j g9)); have e9 : j = (x6.toInt).toNat := (by omega); rw [e9, show (M.2.1 77 1).toInt.toNat + (x6.toInt).toNat = (v16.toInt).toNat by omega, show M29.2.1 78 (v16.toInt).toNat = _ from W_e W28]; exact z_36) (fun j hj => W_n W28 (by omega) (g7 j hj)) (by omega)
            · refine to_i (pc := 69) rw_148_69 rfl (to_go (pc := 71) rw_148_71 (to_is (pc := 76) rw_148_76 (ls2 := [.ref 77, .int a, .int b, .int c, .int x, .int e, .int x6, .int x]) rfl rfl (to_an (pc := 78) rw_148_78 rfl (s_gR (pc := 79) rw_148_79 hG rfl (v := 78) rfl (to_an (pc := 82) rw_148_82 rfl (tt_gI (pc := 83) rw_148_83 (g_o hG rfl) (v := (N.2.1 77 1)) rfl (to_i (pc := 86) rw_148_86 rfl (s_add (pc := 88) rw_148_88 (A := (N.2.1 77 1).toInt) (B := x6.toInt) rfl rfl (by omega) (fun v37 e38 => to_i (pc := 89) rw_148_89 rfl (to_c (pc := 91) rw_148_91 (x := (24 : Int32)) rfl rfl (to_c (pc := 93) rw_148_93 (x := (8 : Int32)) rfl rfl ?_)))))))))))
              refine to_i (pc := 95) rw_148_95 rfl (to_c (pc := 97) rw_148_97 (x := (4 : Int32)) rfl rfl (s_irem (pc := 98) rw_148_98 (A := x6.toInt) (B := 4) rfl rfl (by omega) (by omega) (fun v39 e40 _ => s_mul (pc := 99) rw_148_99 (A := 8) (B := v39.toInt) rfl rfl (by omega) (fun v41 e42 => s_sub (pc := 100) rw_148_100 (A := 24) (B := v41.toInt) rfl rfl (by omega) (fun v43 e44 => s_opE (pc := 101) rw_148_101 (w := x >>> v43) rfl (fun v45 e46 => to_c (pc := 102) rw_148_102 (x := (255 : Int32)) rfl rfl (s_and (pc := 105) rw_148_105 (B := 255) rfl (by omega) (fun v47 e48 _ _ => s_ias (pc := 106) rw_148_106 hG rfl (n := 500) rfl (A := v37.toInt) rfl (by omega) (by omega) (fun M50 W49 => ?_)))))))))
              have hG51 := g_w hG W49 (A := v47.toInt) rfl (lo := 0) (hi := 255) rfl rfl (by omega) (by decide)
              have F52 := FR.w F0 W49 (show 78 = 77 ∧ ((v37.toInt).toNat = 1 ∨ (v37.toInt).toNat = 2) ∨ 78 = 78 by omega)
              refine s_inc (pc := 107) rw_148_107 (ls2 := fun v => [.ref 77, .int a, .int b, .int c, .int x, .int e, .int v, .int x]) rfl rfl (fun _ => rfl) (A := x6.toInt) (B := 1) rfl rfl (by omega) (fun v53 e54 => to_go (pc := 110) rw_148_110 ?_)
              have c_55 : M50.2.1 77 1 = (N.2.1 77 1) := (W_n W49 (fun z => absurd z.1 (by decide)) rfl)
              have t_56 : (M50.2.1 77 1).toInt = (N.2.1 77 1).toInt := congrArg Int32.toInt c_55
              have z_57 : v47 = x_fb a b c x e (x6.toInt).toNat := x_fb_i (w := x) (v := v43) (k := x6.toInt) (by omega) (by omega) e46 e48 (x_w_d (by omega) (by omega))
              exact ih M50 v53 (.int x) hG51 F52 (by omega) (by omega) (by omega) (by omega) (by omega) (fun j hj => by by_cases g9 : (j : Int) < x6.toInt; exact (W_n W49 (by omega) (g6 j g9)); have e9 : j = (x6.toInt).toNat := (by omega); rw [e9, show (M.2.1 77 1).toInt.toNat + (x6.toInt).toNat = (v37.toInt).toNat by omega, show M50.2.1 78 (v37.toInt).toNat = _ from W_e W49]; exact z_57) (fun j hj => W_n W49 (by omega) (g7 j hj)) (by omega)
          · refine to_in (pc := 58) rw_148_58 rfl (to_go (pc := 59) rw_148_59 (to_is (pc := 76) rw_148_76 (ls2 := [.ref 77, .int a, .int b, .int c, .int x, .int e, .int x6, .int c]) rfl rfl (to_an (pc := 78) rw_148_78 rfl (s_gR (pc := 79) rw_148_79 hG rfl (v := 78) rfl (to_an (pc := 82) rw_148_82 rfl (tt_gI (pc := 83) rw_148_83 (g_o hG rfl) (v := (N.2.1 77 1)) rfl (to_i (pc := 86) rw_148_86 rfl (s_add (pc := 88) rw_148_88 (A := (N.2.1 77 1).toInt) (B := x6.toInt) rfl rfl (by omega) (fun v58 e59 => to_i (pc := 89) rw_148_89 rfl (to_c (pc := 91) rw_148_91 (x := (24 : Int32)) rfl rfl (to_c (pc := 93) rw_148_93 (x := (8 : Int32)) rfl rfl ?_)))))))))))
            refine to_i (pc := 95) rw_148_95 rfl (to_c (pc := 97) rw_148_97 (x := (4 : Int32)) rfl rfl (s_irem (pc := 98) rw_148_98 (A := x6.toInt) (B := 4) rfl rfl (by omega) (by omega) (fun v60 e61 _ => s_mul (pc := 99) rw_148_99 (A := 8) (B := v60.toInt) rfl rfl (by omega) (fun v62 e63 => s_sub (pc := 100) rw_148_100 (A := 24) (B := v62.toInt) rfl rfl (by omega) (fun v64 e65 => s_opE (pc := 101) rw_148_101 (w := c >>> v64) rfl (fun v66 e67 => to_c (pc := 102) rw_148_102 (x := (255 : Int32)) rfl rfl (s_and (pc := 105) rw_148_105 (B := 255) rfl (by omega) (fun v68 e69 _ _ => s_ias (pc := 106) rw_148_106 hG rfl (n := 500) rfl (A := v58.toInt) rfl (by omega) (by omega) (fun M71 W70 => ?_)))))))))
            have hG72 := g_w hG W70 (A := v68.toInt) rfl (lo := 0) (hi := 255) rfl rfl (by omega) (by decide)
            have F73 := FR.w F0 W70 (show 78 = 77 ∧ ((v58.toInt).toNat = 1 ∨ (v58.toInt).toNat = 2) ∨ 78 = 78 by omega)
            refine s_inc (pc := 107) rw_148_107 (ls2 := fun v => [.ref 77, .int a, .int b, .int c, .int x, .int e, .int v, .int c]) rfl rfl (fun _ => rfl) (A := x6.toInt) (B := 1) rfl rfl (by omega) (fun v74 e75 => to_go (pc := 110) rw_148_110 ?_)
            have c_76 : M71.2.1 77 1 = (N.2.1 77 1) := (W_n W70 (fun z => absurd z.1 (by decide)) rfl)
            have t_77 : (M71.2.1 77 1).toInt = (N.2.1 77 1).toInt := congrArg Int32.toInt c_76
            have z_78 : v68 = x_fb a b c x e (x6.toInt).toNat := x_fb_i (w := c) (v := v64) (k := x6.toInt) (by omega) (by omega) e67 e69 (x_w_c (by omega) (by omega))
            exact ih M71 v74 (.int c) hG72 F73 (by omega) (by omega) (by omega) (by omega) (by omega) (fun j hj => by by_cases g9 : (j : Int) < x6.toInt; exact (W_n W70 (by omega) (g6 j g9)); have e9 : j = (x6.toInt).toNat := (by omega); rw [e9, show (M.2.1 77 1).toInt.toNat + (x6.toInt).toNat = (v58.toInt).toNat by omega, show M71.2.1 78 (v58.toInt).toNat = _ from W_e W70]; exact z_78) (fun j hj => W_n W70 (by omega) (g7 j hj)) (by omega)
        · refine to_in (pc := 47) rw_148_47 rfl (to_go (pc := 48) rw_148_48 (to_is (pc := 76) rw_148_76 (ls2 := [.ref 77, .int a, .int b, .int c, .int x, .int e, .int x6, .int b]) rfl rfl (to_an (pc := 78) rw_148_78 rfl (s_gR (pc := 79) rw_148_79 hG rfl (v := 78) rfl (to_an (pc := 82) rw_148_82 rfl (tt_gI (pc := 83) rw_148_83 (g_o hG rfl) (v := (N.2.1 77 1)) rfl (to_i (pc := 86) rw_148_86 rfl (s_add (pc := 88) rw_148_88 (A := (N.2.1 77 1).toInt) (B := x6.toInt) rfl rfl (by omega) (fun v79 e80 => to_i (pc := 89) rw_148_89 rfl (to_c (pc := 91) rw_148_91 (x := (24 : Int32)) rfl rfl (to_c (pc := 93) rw_148_93 (x := (8 : Int32)) rfl rfl ?_)))))))))))
          refine to_i (pc := 95) rw_148_95 rfl (to_c (pc := 97) rw_148_97 (x := (4 : Int32)) rfl rfl (s_irem (pc := 98) rw_148_98 (A := x6.toInt) (B := 4) rfl rfl (by omega) (by omega) (fun v81 e82 _ => s_mul (pc := 99) rw_148_99 (A := 8) (B := v81.toInt) rfl rfl (by omega) (fun v83 e84 => s_sub (pc := 100) rw_148_100 (A := 24) (B := v83.toInt) rfl rfl (by omega) (fun v85 e86 => s_opE (pc := 101) rw_148_101 (w := b >>> v85) rfl (fun v87 e88 => to_c (pc := 102) rw_148_102 (x := (255 : Int32)) rfl rfl (s_and (pc := 105) rw_148_105 (B := 255) rfl (by omega) (fun v89 e90 _ _ => s_ias (pc := 106) rw_148_106 hG rfl (n := 500) rfl (A := v79.toInt) rfl (by omega) (by omega) (fun M92 W91 => ?_)))))))))
          have hG93 := g_w hG W91 (A := v89.toInt) rfl (lo := 0) (hi := 255) rfl rfl (by omega) (by decide)
          have F94 := FR.w F0 W91 (show 78 = 77 ∧ ((v79.toInt).toNat = 1 ∨ (v79.toInt).toNat = 2) ∨ 78 = 78 by omega)
          refine s_inc (pc := 107) rw_148_107 (ls2 := fun v => [.ref 77, .int a, .int b, .int c, .int x, .int e, .int v, .int b]) rfl rfl (fun _ => rfl) (A := x6.toInt) (B := 1) rfl rfl (by omega) (fun v95 e96 => to_go (pc := 110) rw_148_110 ?_)
          have c_97 : M92.2.1 77 1 = (N.2.1 77 1) := (W_n W91 (fun z => absurd z.1 (by decide)) rfl)
          have t_98 : (M92.2.1 77 1).toInt = (N.2.1 77 1).toInt := congrArg Int32.toInt c_97
          have z_99 : v89 = x_fb a b c x e (x6.toInt).toNat := x_fb_i (w := b) (v := v85) (k := x6.toInt) (by omega) (by omega) e88 e90 (x_w_b (by omega) (by omega))
          exact ih M92 v95 (.int b) hG93 F94 (by omega) (by omega) (by omega) (by omega) (by omega) (fun j hj => by by_cases g9 : (j : Int) < x6.toInt; exact (W_n W91 (by omega) (g6 j g9)); have e9 : j = (x6.toInt).toNat := (by omega); rw [e9, show (M.2.1 77 1).toInt.toNat + (x6.toInt).toNat = (v79.toInt).toNat by omega, show M92.2.1 78 (v79.toInt).toNat = _ from W_e W91]; exact z_99) (fun j hj => W_n W91 (by omega) (g7 j hj)) (by omega)
      · refine to_in (pc := 36) rw_148_36 rfl (to_go (pc := 37) rw_148_37 (to_is (pc := 76) rw_148_76 (ls2 := [.ref 77, .int a, .int b, .int c, .int x, .int e, .int x6, .int a]) rfl rfl (to_an (pc := 78) rw_148_78 rfl (s_gR (pc := 79) rw_148_79 hG rfl (v := 78) rfl (to_an (pc := 82) rw_148_82 rfl (tt_gI (pc := 83) rw_148_83 (g_o hG rfl) (v := (N.2.1 77 1)) rfl (to_i (pc := 86) rw_148_86 rfl (s_add (pc := 88) rw_148_88 (A := (N.2.1 77 1).toInt) (B := x6.toInt) rfl rfl (by omega) (fun v100 e101 => to_i (pc := 89) rw_148_89 rfl (to_c (pc := 91) rw_148_91 (x := (24 : Int32)) rfl rfl (to_c (pc := 93) rw_148_93 (x := (8 : Int32)) rfl rfl ?_)))))))))))
        refine to_i (pc := 95) rw_148_95 rfl (to_c (pc := 97) rw_148_97 (x := (4 : Int32)) rfl rfl (s_irem (pc := 98) rw_148_98 (A := x6.toInt) (B := 4) rfl rfl (by omega) (by omega) (fun v102 e103 _ => s_mul (pc := 99) rw_148_99 (A := 8) (B := v102.toInt) rfl rfl (by omega) (fun v104 e105 => s_sub (pc := 100) rw_148_100 (A := 24) (B := v104.toInt) rfl rfl (by omega) (fun v106 e107 => s_opE (pc := 101) rw_148_101 (w := a >>> v106) rfl (fun v108 e109 => to_c (pc := 102) rw_148_102 (x := (255 : Int32)) rfl rfl (s_and (pc := 105) rw_148_105 (B := 255) rfl (by omega) (fun v110 e111 _ _ => s_ias (pc := 106) rw_148_106 hG rfl (n := 500) rfl (A := v100.toInt) rfl (by omega) (by omega) (fun M113 W112 => ?_)))))))))
        have hG114 := g_w hG W112 (A := v110.toInt) rfl (lo := 0) (hi := 255) rfl rfl (by omega) (by decide)
        have F115 := FR.w F0 W112 (show 78 = 77 ∧ ((v100.toInt).toNat = 1 ∨ (v100.toInt).toNat = 2) ∨ 78 = 78 by omega)
        refine s_inc (pc := 107) rw_148_107 (ls2 := fun v => [.ref 77, .int a, .int b, .int c, .int x, .int e, .int v, .int a]) rfl rfl (fun _ => rfl) (A := x6.toInt) (B := 1) rfl rfl (by omega) (fun v116 e117 => to_go (pc := 110) rw_148_110 ?_)
        have c_118 : M113.2.1 77 1 = (N.2.1 77 1) := (W_n W112 (fun z => absurd z.1 (by decide)) rfl)
        have t_119 : (M113.2.1 77 1).toInt = (N.2.1 77 1).toInt := congrArg Int32.toInt c_118
        have z_120 : v110 = x_fb a b c x e (x6.toInt).toNat := x_fb_i (w := a) (v := v106) (k := x6.toInt) (by omega) (by omega) e109 e111 (x_w_a (by omega) (by omega))
        exact ih M113 v116 (.int a) hG114 F115 (by omega) (by omega) (by omega) (by omega) (by omega) (fun j hj => by by_cases g9 : (j : Int) < x6.toInt; exact (W_n W112 (by omega) (g6 j g9)); have e9 : j = (x6.toInt).toNat := (by omega); rw [e9, show (M.2.1 77 1).toInt.toNat + (x6.toInt).toNat = (v100.toInt).toNat by omega, show M113.2.1 78 (v100.toInt).toNat = _ from W_e W112]; exact z_120) (fun j hj => W_n W112 (by omega) (g7 j hj)) (by omega)
set_option maxRecDepth 4000 in
set_option maxHeartbeats 0 in
theorem E_148 {X : mm_X} {d : Nat} {M : mm_M} {Q : Option Value → mm_M → Prop} {a : Int32} {b : Int32} {c : Int32} {x : Int32} {e : Int32} (hX : g_X X) (hd : 0 ≤ d) (hG : g_G M) (h : ∀ (r : Int32) (M1 : mm_M), g_G M1 → FR md_fe M M1 → (480 < (M.2.1 77 1).toInt → r.toInt = -1 ∧ (M1.2.1 77 1).toInt = (M.2.1 77 1).toInt) → ((M.2.1 77 1).toInt ≤ 480 → r.toInt = (M.2.1 77 1).toInt + 20 ∧ (M1.2.1 77 1).toInt = (M.2.1 77 1).toInt + 20) → (FDr M M1 a b c x e) → Q (some (.int r)) M1) : mm_T X d 147 0 [.ref 77, .int a, .int b, .int c, .int x, .int e, .null, .null] [] M Q := by
  have F0 : FR md_fe M M := FR.rf
  have b_121 := g_b hG (a := 77) (i := 1) (lo := 0) (hi := 500) rfl rfl
  refine to_an (pc := 0) rw_148_0 rfl (to_c (pc := 1) rw_148_1 (x := (0 : Int32)) rfl rfl (s_pI (pc := 2) rw_148_2 hG rfl (fun M123 W122 => ?_)))
  have hG124 := g_wf hG W122 rfl rfl (by decide)
  have F125 := FR.w F0 W122 (show 77 = 77 ∧ (2 = 1 ∨ 2 = 2) ∨ 77 = 78 by decide)
  refine to_an (pc := 5) rw_148_5 rfl ?_
  have c_126 : M123.2.1 77 1 = (M.2.1 77 1) := (W_n W122 (by decide) rfl)
  refine tt_gI (pc := 6) rw_148_6 (g_o hG124 rfl) (v := (M.2.1 77 1)) c_126 (to_c (pc := 9) rw_148_9 (x := (20 : Int32)) rfl rfl (s_add (pc := 11) rw_148_11 (A := (M.2.1 77 1).toInt) (B := 20) rfl rfl (by omega) (fun v127 e128 => to_c (pc := 12) rw_148_12 (x := (500 : Int32)) rfl rfl (b_cle (pc := 15) rw_148_15 (A := v127.toInt) (B := 500) rfl rfl (fun h129 => ?_) (fun h129 => ?_)))))
  · refine to_c (pc := 20) rw_148_20 (x := (0 : Int32)) rfl rfl (to_is (pc := 21) rw_148_21 (ls2 := [.ref 77, .int a, .int b, .int c, .int x, .int e, .int (0 : Int32), .null]) rfl rfl ?_)
    have k_130 : (0 : Int32).toInt = 0 := rfl
    have t_131 : (M123.2.1 77 1).toInt = (M.2.1 77 1).toInt := congrArg Int32.toInt c_126
    exact (U_148_0 (a := a) (b := b) (c := c) (x := x) (e := e) hX hd  h ((20 - (0 : Int32).toInt).toNat + 1)) M123 (0 : Int32) (.null) hG124 F125 (by omega) (by omega) (by omega) (by omega) (by omega) (fun j hj => by exfalso; rw [show (0 : Int32).toInt = 0 from rfl] at hj; omega) (fun j hj => (W_n W122 (by omega) rfl)) (by omega)
  · refine to_c (pc := 18) rw_148_18 (x := (-1 : Int32)) rfl rfl (to_r0 (pc := 19) rw_148_19 ?_)
    have k_132 : (-1 : Int32).toInt = -1 := rfl
    have t_133 : (M123.2.1 77 1).toInt = (M.2.1 77 1).toInt := congrArg Int32.toInt c_126
    exact h (-1 : Int32) M123 hG124 F125 (by omega) (by omega) (FDr_0 (by omega) (fun k => (W_n W122 (by omega) rfl)))
set_option maxRecDepth 4000 in
set_option maxHeartbeats 0 in
theorem E_111 {X : mm_X} {d : Nat} {M : mm_M} {Q : Option Value → mm_M → Prop} {n : Int32} {p : Nat} {pz : Nat} {q : Nat} {qz : Nat} {t : Nat → Int} {nn : Int} (hX : g_X X) (hd : 6 ≤ d) (hG : g_G M) (hp : p = 49 ∨ p = 58) (hpz : pz = 49 ∨ pz = 58) (hq : q = 67 ∨ q = 72) (hqz : qz = 67 ∨ qz = 72) (q1 : g_PQ M p pz q qz) (q2 : 0 ≤ n.toInt ∧ n.toInt ≤ (M.2.1 1 1).toInt → n.toInt = nn) (q3 : TT M t nn) (q4 : g_W X) (q5 : p ≠ pz) (h : ∀ (r : Int32) (M1 : mm_M), g_G M1 → FRX md_X M M1 → (n.toInt < 0 ∨ (M.2.1 1 1).toInt < n.toInt → r.toInt = -2) → ((0 ≤ n.toInt ∧ n.toInt ≤ (M.2.1 1 1).toInt → PAN (x_plan t nn 23 0 x_s0 (x_sk t nn 0)) r.toInt)) → (-2 ≤ r.toInt) → (r.toInt < 0 → (M1.2.1 0 12).toInt = (M.2.1 0 12).toInt ∧ (M1.2.1 6 0).toInt = (M.2.1 6 0).toInt ∧ (M1.2.1 17 4).toInt = (M.2.1 17 4).toInt) → (0 ≤ r.toInt → (M1.2.1 0 12).toInt = 0 ∧ (M1.2.1 6 0).toInt = 0 ∧ (M1.2.1 17 4).toInt = 0) → ((r.toInt < 0 → ∀ s9 : x_S, PLs2 M p s9 → TPl M1 s9)) → ((0 ≤ r.toInt → ∃ s2 : x_S, x_plan t nn 23 0 x_s0 (x_sk t nn 0) = some (r.toInt, s2) ∧ TPl M1 s2)) → (M1.2.2.2 0 8 ≠ M1.2.2.2 0 9) → ((r.toInt < 0 → ∀ a i : Nat, (6 ≤ a ∧ a ≤ 10 ∨ a = 0 ∧ i = 12) → M1.2.1 a i = M.2.1 a i)) → Q (some (.int r)) M1) : mm_T X d 111 0 [.ref 0, .int n, .null] [] M Q := by
  have F0 : FRX md_X M M := FRX.rf
  have b_1 := g_b hG (a := 1) (i := 1) (lo := 0) (hi := 500) rfl rfl
  refine to_an (pc := 0) rw_111_0 rfl (s_gR (pc := 1) rw_111_1 hG rfl (v := 1) rfl (to_in (pc := 4) rw_111_4 rfl (s_v (pc := 5) rw_111_5 (dp0 hd (by decide)) (ls0 := [.ref 1, .int n]) rfl (Nat.le_of_ble_eq_true rfl) (Nat.le_of_ble_eq_true rfl) rfl (to_rc rfl rfl rfl (g_o hG rfl)) rfl (E_78 hX (dp1 hd (by decide)) hG (by omega) q3 q4 (n := n) (fun r2 M10 hG4 F3 p_5 p_6 p_7 p_8 p_9 => ?_)))))
  have F11 := FRX.c F0 F3 tg_180
  have b_12 := g_b hG4 (a := 1) (i := 1) (lo := 0) (hi := 500) rfl rfl
  rcases (show r2.toInt = 0 ∨ r2.toInt = 1 by omega) with h13 | h13
  · skip
    clear p_9
    refine b_ine_f (pc := 8) rw_111_8 (A := r2.toInt) rfl (by omega) (to_c (pc := 11) rw_111_11 (x := (-2 : Int32)) rfl rfl (to_r0 (pc := 13) rw_111_13 ?_))
    have k_14 : (-2 : Int32).toInt = -2 := rfl
    have c_15 : M10.2.1 0 12 = (M.2.1 0 12) := (F_n F3 (show ¬ (0 = 1 ∨ 3 ≤ 0 ∧ 0 ≤ 5) by decide) rfl)
    have b_16 := g_b hG (a := 0) (i := 12) (lo := 0) (hi := 30) rfl rfl
    have t_17 : (M10.2.1 0 12).toInt = (M.2.1 0 12).toInt := congrArg Int32.toInt c_15
    have c_18 : M10.2.1 6 0 = (M.2.1 6 0) := (F_n F3 (show ¬ (6 = 1 ∨ 3 ≤ 6 ∧ 6 ≤ 5) by decide) rfl)
    have b_19 := g_b hG (a := 6) (i := 0) (lo := 0) (hi := 150) rfl rfl
    have t_20 : (M10.2.1 6 0).toInt = (M.2.1 6 0).toInt := congrArg Int32.toInt c_18
    have c_21 : M10.2.1 17 4 = (M.2.1 17 4) := (F_n F3 (show ¬ (17 = 1 ∨ 3 ≤ 17 ∧ 17 ≤ 5) by decide) rfl)
    have t_22 : (M10.2.1 17 4).toInt = (M.2.1 17 4).toInt := congrArg Int32.toInt c_21
    have j_23 := (PQ_f F3 q1)
    exact h (-2 : Int32) M10 hG4 F11 (by omega) (fun z => by exfalso; omega) (by omega) (by omega) (by omega) (fun _ s9 h9 => ⟨p, hp, j_23.1, PLs2_f (fun a i z => ⟨(F_n F3 (show ¬ (a = 1 ∨ 3 ≤ a ∧ a ≤ 5) by omega) rfl), (F_nl F3 (show ¬ (a = 1 ∨ 3 ≤ a ∧ a ≤ 5) by omega) rfl)⟩) h9⟩) (fun z => by exfalso; omega) (by rw [j_23.1, j_23.2.1]; exact fun z => q5 (Option.some.inj z)) (fun _ a i z => (F_n F3 (show ¬ (a = 1 ∨ 3 ≤ a ∧ a ≤ 5) by omega) rfl))
  · skip
    have p_24 := p_9 (by omega)
    clear p_9
    have z_25 := p_24.2
    refine b_ine_t (pc := 8) rw_111_8 (A := r2.toInt) rfl (by omega) (to_an (pc := 14) rw_111_14 rfl ?_)
    have j_26 := (PQ_f F3 q1)
    refine tt_gR (pc := 15) rw_111_15 (g_o hG4 rfl) j_26.2.1 (to_an (pc := 18) rw_111_18 rfl (s_gR (pc := 19) rw_111_19 hG4 rfl (v := 1) rfl (s_v (pc := 22) rw_111_22 (dp0 hd (by decide)) (ls0 := [.ref pz, .ref 1, .null]) rfl (Nat.le_of_ble_eq_true rfl) (Nat.le_of_ble_eq_true rfl) rfl (to_rc rfl rfl rfl (g_o hG4 (by rcases hpz with rfl | rfl <;> rfl))) rfl (E_30 hX (dp1 hd (by decide)) hG4 hpz p_24.1 (by omega) (p := pz) (t := t) (nn := nn) (a := (x_sk t nn 0)) (fun r27 M36 hG29 F28 p_30 p_31 p_32 p_33 p_34 p_35 => ?_)))))
    have F37 := FRX.c F11 F28 (fun a i z => show a ≤ 76 ∧ ¬ a = 2 by have z : a = 1 ∧ 6 ≤ i ∧ i ≤ 11 ∨ pz ≤ a ∧ a ≤ pz + 8 := z; omega)
    rcases (show r27.toInt = 0 ∨ r27.toInt = 1 by omega) with h38 | h38
    · skip
      have p_39 := p_34 (by omega)
      clear p_33 p_34 p_35
      refine b_ine_f (pc := 25) rw_111_25 (A := r27.toInt) rfl (by omega) (to_c (pc := 28) rw_111_28 (x := (-1 : Int32)) rfl rfl (to_r0 (pc := 29) rw_111_29 ?_))
      have k_40 : (-1 : Int32).toInt = -1 := rfl
      have c_41 : M36.2.1 0 12 = (M.2.1 0 12) := (F_n F28 (show ¬ (0 = 1 ∧ 6 ≤ 12 ∧ 12 ≤ 11 ∨ pz ≤ 0 ∧ 0 ≤ pz + 8) by omega) (F_n F3 (show ¬ (0 = 1 ∨ 3 ≤ 0 ∧ 0 ≤ 5) by decide) rfl))
      have b_42 := g_b hG (a := 0) (i := 12) (lo := 0) (hi := 30) rfl rfl
      have t_43 : (M36.2.1 0 12).toInt = (M.2.1 0 12).toInt := congrArg Int32.toInt c_41
      have c_44 : M36.2.1 6 0 = (M.2.1 6 0) := (F_n F28 (show ¬ (6 = 1 ∧ 6 ≤ 0 ∧ 0 ≤ 11 ∨ pz ≤ 6 ∧ 6 ≤ pz + 8) by omega) (F_n F3 (show ¬ (6 = 1 ∨ 3 ≤ 6 ∧ 6 ≤ 5) by decide) rfl))
      have b_45 := g_b hG (a := 6) (i := 0) (lo := 0) (hi := 150) rfl rfl
      have t_46 : (M36.2.1 6 0).toInt = (M.2.1 6 0).toInt := congrArg Int32.toInt c_44
      have c_47 : M36.2.1 17 4 = (M.2.1 17 4) := (F_n F28 (show ¬ (17 = 1 ∧ 6 ≤ 4 ∧ 4 ≤ 11 ∨ pz ≤ 17 ∧ 17 ≤ pz + 8) by omega) (F_n F3 (show ¬ (17 = 1 ∨ 3 ≤ 17 ∧ 17 ≤ 5) by decide) rfl))
      have t_48 : (M36.2.1 17 4).toInt = (M.2.1 17 4).toInt := congrArg Int32.toInt c_47
      have j_49 := (PQ_f F28 j_26)
      exact h (-1 : Int32) M36 hG29 F37 (by omega) (fun _ => Or.inl ⟨p_39, rfl⟩) (by omega) (by omega) (by omega) (fun _ s9 h9 => ⟨p, hp, j_49.1, PLs2_f (fun a i z => ⟨(F_n F28 (show ¬ (a = 1 ∧ 6 ≤ i ∧ i ≤ 11 ∨ pz ≤ a ∧ a ≤ pz + 8) by omega) (F_n F3 (show ¬ (a = 1 ∨ 3 ≤ a ∧ a ≤ 5) by omega) rfl)), (F_nl F28 (show ¬ (a = 1 ∧ 6 ≤ i ∧ i ≤ 11 ∨ pz ≤ a ∧ a ≤ pz + 8) by omega) (F_nl F3 (show ¬ (a = 1 ∨ 3 ≤ a ∧ a ≤ 5) by omega) rfl))⟩) h9⟩) (fun z => by exfalso; omega) (by rw [j_49.1, j_49.2.1]; exact fun z => q5 (Option.some.inj z)) (fun _ a i z => (F_n F28 (show ¬ (a = 1 ∧ 6 ≤ i ∧ i ≤ 11 ∨ pz ≤ a ∧ a ≤ pz + 8) by omega) (F_n F3 (show ¬ (a = 1 ∨ 3 ≤ a ∧ a ≤ 5) by omega) rfl)))
    · skip
      have p_50 := p_33 (by omega)
      have p_51 := p_35 (by omega)
      clear p_33 p_34 p_35
      refine b_ine_t (pc := 25) rw_111_25 (A := r27.toInt) rfl (by omega) (to_an (pc := 30) rw_111_30 rfl ?_)
      have j_52 := (PQ_f F28 j_26)
      refine tt_gR (pc := 31) rw_111_31 (g_o hG29 rfl) j_52.1 (to_asn (pc := 34) rw_111_34 (ls2 := [.ref 0, .int n, .ref p]) rfl rfl (to_an (pc := 35) rw_111_35 rfl (to_an (pc := 36) rw_111_36 rfl (tt_gR (pc := 37) rw_111_37 (g_o hG29 rfl) j_52.2.1 (s_pR (pc := 40) rw_111_40 hG29 rfl (by rcases hpz with rfl | rfl <;> rfl) (fun M54 W53 => ?_))))))
      have hG55 := g_wr hG29 W53 rfl
      have F56 := FRX.wr F37 W53
      have j_57 := PQ_s8 W53 j_52
      refine to_an (pc := 43) rw_111_43 rfl (to_an (pc := 44) rw_111_44 rfl (s_pR (pc := 45) rw_111_45 hG55 rfl (by rcases hp with rfl | rfl <;> rfl) (fun M59 W58 => ?_)))
      have hG60 := g_wr hG55 W58 rfl
      have F61 := FRX.wr F56 W58
      have j_62 := PQ_s9 W58 j_57
      refine to_an (pc := 48) rw_111_48 rfl (to_c (pc := 49) rw_111_49 (x := (0 : Int32)) rfl rfl (s_pI (pc := 50) rw_111_50 hG60 rfl (fun M64 W63 => ?_)))
      have hG65 := g_w hG60 W63 (A := 0) rfl (lo := 0) (hi := 30) rfl rfl (by omega) (by decide)
      have F66 := FRX.w F61 W63 (show 0 ≤ 76 ∧ ¬ 0 = 2 by decide)
      refine to_an (pc := 53) rw_111_53 rfl (s_gR (pc := 54) rw_111_54 hG65 rfl (v := 6) rfl (to_c (pc := 57) rw_111_57 (x := (0 : Int32)) rfl rfl (s_pI (pc := 58) rw_111_58 hG65 rfl (fun M68 W67 => ?_))))
      have hG69 := g_w hG65 W67 (A := 0) rfl (lo := 0) (hi := 150) rfl rfl (by omega) (by decide)
      have F70 := FRX.w F66 W67 (show 6 ≤ 76 ∧ ¬ 6 = 2 by decide)
      refine to_an (pc := 61) rw_111_61 rfl ?_
      have j_71 := (PQ_w W67 (PQ_w W63 j_62))
      refine tt_gR (pc := 62) rw_111_62 (g_o hG69 rfl) j_71.2.2.1 (s_v (pc := 65) rw_111_65 (dp0 hd (by decide)) (ls0 := [.ref q]) rfl (Nat.le_of_ble_eq_true rfl) (Nat.le_of_ble_eq_true rfl) rfl (to_rc rfl rfl rfl (g_o hG69 (by rcases hq with rfl | rfl <;> rfl))) rfl (to_an (pc := 0) rw_56_0 rfl (to_c (pc := 1) rw_56_1 (x := (0 : Int32)) rfl rfl (s_pI (pc := 2) rw_56_2 hG69 (by rcases hq with rfl | rfl <;> rfl) (fun M73 W72 => ?_)))))
      have hG74 := g_w hG69 W72 (A := 0) rfl (lo := 0) (hi := 40) (by rcases hq with rfl | rfl <;> rfl) (by rcases hq with rfl | rfl <;> rfl) (by omega) (by omega)
      have F75 := FRX.w F70 W72 (show q ≤ 76 ∧ ¬ q = 2 by omega)
      refine to_an (pc := 5) rw_56_5 rfl (to_c (pc := 6) rw_56_6 (x := (0 : Int32)) rfl rfl (s_pI (pc := 7) rw_56_7 hG74 (by rcases hq with rfl | rfl <;> rfl) (fun M77 W76 => ?_)))
      have hG78 := g_w hG74 W76 (A := 0) rfl (lo := 0) (hi := 40) (by rcases hq with rfl | rfl <;> rfl) (by rcases hq with rfl | rfl <;> rfl) (by omega) (by omega)
      have F79 := FRX.w F75 W76 (show q ≤ 76 ∧ ¬ q = 2 by omega)
      refine to_rv (pc := 10) rw_56_10 (to_an (pc := 68) rw_111_68 rfl (s_gR (pc := 69) rw_111_69 hG78 rfl (v := 17) rfl (s_v (pc := 72) rw_111_72 (dp0 hd (by decide)) (ls0 := [.ref 17, .null]) rfl (Nat.le_of_ble_eq_true rfl) (Nat.le_of_ble_eq_true rfl) rfl (to_rc rfl rfl rfl (g_o hG78 rfl)) rfl (C_22 hX (dp1 hd (by decide)) hG78  (fun M83 hG81 F80 p_82 => ?_)))))
      have F84 := FRX.c F79 F80 tg_182
      refine to_an (pc := 75) rw_111_75 rfl ?_
      have j_85 := (PQ_f F80 (PQ_w W76 (PQ_w W72 j_71)))
      refine tt_gR (pc := 76) rw_111_76 (g_o hG81 rfl) j_85.1 ?_
      have c_86 : M83.2.1 pz 1 = (M36.2.1 pz 1) := (F_n F80 (show ¬ (17 ≤ pz ∧ pz ≤ 27) by omega) (W_n W76 (by omega) (W_n W72 (by omega) (W_n W67 (by omega) (W_n W63 (by omega) (W_rf W58 (W_rf W53 rfl)))))))
      refine tt_gI (pc := 79) rw_111_79 (g_o hG81 (by rcases hpz with rfl | rfl <;> rfl)) (v := (M36.2.1 pz 1)) c_86 (to_r0 (pc := 82) rw_111_82 ?_)
      have c_87 : M83.2.1 0 12 = (0 : Int32) := (F_n F80 (show ¬ (17 ≤ 0 ∧ 0 ≤ 27) by decide) (W_n W76 (by omega) (W_n W72 (by omega) (W_n W67 (by decide) (W_e W63)))))
      have k_88 : (0 : Int32).toInt = 0 := rfl
      have t_89 : (M83.2.1 0 12).toInt = (0 : Int32).toInt := congrArg Int32.toInt c_87
      have c_90 : M83.2.1 6 0 = (0 : Int32) := (F_n F80 (show ¬ (17 ≤ 6 ∧ 6 ≤ 27) by decide) (W_n W76 (by omega) (W_n W72 (by omega) (W_e W67))))
      have t_91 : (M83.2.1 6 0).toInt = (0 : Int32).toInt := congrArg Int32.toInt c_90
      exact h (M36.2.1 pz 1) M83 hG81 F84 (by omega) (fun _ => Or.inr (Exists.elim p_51 (fun s2 h9 => ⟨s2, h9.1⟩))) (by omega) (by omega) (by omega) (fun z => by exfalso; omega) (fun _ => Exists.elim p_51 (fun s2 h9 => ⟨s2, h9.1, pz, hpz, j_85.1, PLs2_f (fun a i z => ⟨(F_n F80 (show ¬ (17 ≤ a ∧ a ≤ 27) by omega) (W_n W76 (by omega) (W_n W72 (by omega) (W_n W67 (by /-r6,0-/ omega) (W_n W63 (by /-r0,12-/ omega) (W_rf W58 (W_rf W53 rfl))))))), (F_nl F80 (show ¬ (17 ≤ a ∧ a ≤ 27) by omega) (W_j W76 (W_j W72 (W_j W67 (W_j W63 (W_rl W58 (W_rl W53 rfl)))))))⟩) (PLs2_c h9.2)⟩)) (by rw [j_85.1, j_85.2.1]; exact fun z => q5 (Option.some.inj z.symm)) (fun z => by exfalso; omega)
theorem D_111 {X : mm_X} {d : Nat} {M : mm_M} {Q : Option Value → mm_M → Prop} {n : Int32} {p : Nat} {pz : Nat} {q : Nat} {qz : Nat} {t : Nat → Int} {nn : Int} (hX : g_X X) (hd : 6 ≤ d) (hG : g_G M) (hp : p = 49 ∨ p = 58) (hpz : pz = 49 ∨ pz = 58) (hq : q = 67 ∨ q = 72) (hqz : qz = 67 ∨ qz = 72) (q1 : g_PQ M p pz q qz) (q2 : PI M) (q3 : NI M) (q4 : QI M) (q5 : 0 ≤ n.toInt ∧ n.toInt ≤ (M.2.1 1 1).toInt → n.toInt = nn) (q6 : TT M t nn) (q7 : g_W X) (q8 : p ≠ pz) (h : ∀ (r : Int32) (M1 : mm_M), g_G M1 → FRX md_X M M1 → (n.toInt < 0 ∨ (M.2.1 1 1).toInt < n.toInt → (M1.2.1 1 1).toInt = (M.2.1 1 1).toInt) → (0 ≤ n.toInt ∧ n.toInt ≤ (M.2.1 1 1).toInt → (M1.2.1 1 1).toInt = 0) → PI M1 → g_PP M1 p pz q qz → NI M1 → QI M1 → (n.toInt < 0 ∨ (M.2.1 1 1).toInt < n.toInt → r.toInt = -2) → ((0 ≤ n.toInt ∧ n.toInt ≤ (M.2.1 1 1).toInt → PAN (x_plan t nn 23 0 x_s0 (x_sk t nn 0)) r.toInt)) → (-2 ≤ r.toInt) → (r.toInt < 0 → (M1.2.1 0 12).toInt = (M.2.1 0 12).toInt ∧ (M1.2.1 6 0).toInt = (M.2.1 6 0).toInt ∧ (M1.2.1 17 4).toInt = (M.2.1 17 4).toInt) → (0 ≤ r.toInt → (M1.2.1 0 12).toInt = 0 ∧ (M1.2.1 6 0).toInt = 0 ∧ (M1.2.1 17 4).toInt = 0) → ((r.toInt < 0 → ∀ s9 : x_S, PLs2 M p s9 → TPl M1 s9)) → ((0 ≤ r.toInt → ∃ s2 : x_S, x_plan t nn 23 0 x_s0 (x_sk t nn 0) = some (r.toInt, s2) ∧ TPl M1 s2)) → (M1.2.2.2 0 8 ≠ M1.2.2.2 0 9) → ((r.toInt < 0 → ∀ a i : Nat, (6 ≤ a ∧ a ≤ 10 ∨ a = 0 ∧ i = 12) → M1.2.1 a i = M.2.1 a i)) → Q (some (.int r)) M1) : mm_T X d 111 0 [.ref 0, .int n, .null] [] M Q := by
  refine T_im (T_and (C_111 hX (by omega) hG hp hpz hq hqz q1 q2 q3 q4 (p := p) (pz := pz) (q := q) (qz := qz) (n := n) (Q := (fun v M1 => ∃ r : Int32, v = some (.int r) ∧ g_G M1 ∧ FRX md_X M M1 ∧ (n.toInt < 0 ∨ (M.2.1 1 1).toInt < n.toInt → (M1.2.1 1 1).toInt = (M.2.1 1 1).toInt) ∧ (0 ≤ n.toInt ∧ n.toInt ≤ (M.2.1 1 1).toInt → (M1.2.1 1 1).toInt = 0) ∧ PI M1 ∧ g_PP M1 p pz q qz ∧ NI M1 ∧ QI M1)) (fun r M1 a0 a1 a2 a3 a4 a5 a6 a7 => ⟨r, rfl, a0, a1, a2, a3, a4, a5, a6, a7⟩)) (E_111 hX (by omega) hG hp hpz hq hqz q1 q5 q6 q7 q8 (p := p) (pz := pz) (q := q) (qz := qz) (t := t) (nn := nn) (n := n) (Q := (fun v M1 => ∃ r : Int32, v = some (.int r) ∧ (n.toInt < 0 ∨ (M.2.1 1 1).toInt < n.toInt → r.toInt = -2) ∧ ((0 ≤ n.toInt ∧ n.toInt ≤ (M.2.1 1 1).toInt → PAN (x_plan t nn 23 0 x_s0 (x_sk t nn 0)) r.toInt)) ∧ (-2 ≤ r.toInt) ∧ (r.toInt < 0 → (M1.2.1 0 12).toInt = (M.2.1 0 12).toInt ∧ (M1.2.1 6 0).toInt = (M.2.1 6 0).toInt ∧ (M1.2.1 17 4).toInt = (M.2.1 17 4).toInt) ∧ (0 ≤ r.toInt → (M1.2.1 0 12).toInt = 0 ∧ (M1.2.1 6 0).toInt = 0 ∧ (M1.2.1 17 4).toInt = 0) ∧ ((r.toInt < 0 → ∀ s9 : x_S, PLs2 M p s9 → TPl M1 s9)) ∧ ((0 ≤ r.toInt → ∃ s2 : x_S, x_plan t nn 23 0 x_s0 (x_sk t nn 0) = some (r.toInt, s2) ∧ TPl M1 s2)) ∧ (M1.2.2.2 0 8 ≠ M1.2.2.2 0 9) ∧ ((r.toInt < 0 → ∀ a i : Nat, (6 ≤ a ∧ a ≤ 10 ∨ a = 0 ∧ i = 12) → M1.2.1 a i = M.2.1 a i)))) (fun r M1 _ _ b0 b1 b2 b3 b4 b5 b6 b7 b8 => ⟨r, rfl, b0, b1, b2, b3, b4, b5, b6, b7, b8⟩))) ?_
  intro v M1 hh
  obtain ⟨⟨r, hv, a0, a1, a2, a3, a4, a5, a6, a7⟩, ⟨r2, hv2, b0, b1, b2, b3, b4, b5, b6, b7, b8⟩⟩ := hh
  have e : r2 = r := by
    rw [hv] at hv2
    injection hv2 with z
    injection z with z
    exact z.symm
  subst e
  subst hv
  exact h _ M1 a0 a1 a2 a3 a4 a5 a6 a7 b0 b1 b2 b3 b4 b5 b6 b7 b8
theorem D_173 {X : mm_X} {d : Nat} {M : mm_M} {Q : Option Value → mm_M → Prop} {n : Int32} {t : Nat → Int} {nn : Int} (hX : g_X X) (hd : 5 ≤ d) (hG : g_G M) (q1 : (M.2.1 77 7).toInt ≤ (M.2.1 77 6).toInt) (q2 : FA M) (q3 : WC M) (q4 : NJ M) (q5 : PS M) (q6 : KQ M) (q7 : 0 ≤ n.toInt ∧ n.toInt ≤ (M.2.1 77 1).toInt → n.toInt = nn) (q8 : TR M t nn) (q9 : W9 M) (h : ∀ (r : Int32) (M1 : mm_M), g_G M1 → FR md_P M M1 → ((M1.2.1 77 7).toInt ≤ (M1.2.1 77 6).toInt) → FA M1 → WC M1 → NJ M1 → PS M1 → KQ M1 → (n.toInt < 0 ∨ (M.2.1 77 1).toInt < n.toInt → (M1.2.1 77 1).toInt = (M.2.1 77 1).toInt) → (0 ≤ n.toInt ∧ n.toInt ≤ (M.2.1 77 1).toInt → (M1.2.1 77 1).toInt = 0) → (n.toInt < 0 ∨ (M.2.1 77 1).toInt < n.toInt → r.toInt = -2) → ((0 ≤ n.toInt ∧ n.toInt ≤ (M.2.1 77 1).toInt → PAN (x_plan t nn 23 0 x_s0 (x_sk t nn 0)) r.toInt)) → (-2 ≤ r.toInt) → (r.toInt < 0 → (M1.2.1 77 28).toInt = (M.2.1 77 28).toInt ∧ (M1.2.1 77 29).toInt = (M.2.1 77 29).toInt ∧ (M1.2.1 77 41).toInt = (M.2.1 77 41).toInt) → (0 ≤ r.toInt → (M1.2.1 77 28).toInt = 0 ∧ (M1.2.1 77 29).toInt = 0 ∧ (M1.2.1 77 41).toInt = 0) → ((r.toInt < 0 → ∀ s9 : x_S, PLk2 M s9 → PLk2 M1 s9)) → ((0 ≤ r.toInt → ∃ s2 : x_S, x_plan t nn 23 0 x_s0 (x_sk t nn 0) = some (r.toInt, s2) ∧ PLk2 M1 s2)) → Q (some (.int r)) M1) : mm_T X d 172 0 [.ref 77, .int n, .null] [] M Q := by
  refine T_im (T_and (C_173 hX (by omega) hG q1 q2 q3 q4 q5 q6 (n := n) (Q := (fun v M1 => ∃ r : Int32, v = some (.int r) ∧ g_G M1 ∧ FR md_P M M1 ∧ ((M1.2.1 77 7).toInt ≤ (M1.2.1 77 6).toInt) ∧ FA M1 ∧ WC M1 ∧ NJ M1 ∧ PS M1 ∧ KQ M1 ∧ (n.toInt < 0 ∨ (M.2.1 77 1).toInt < n.toInt → (M1.2.1 77 1).toInt = (M.2.1 77 1).toInt) ∧ (0 ≤ n.toInt ∧ n.toInt ≤ (M.2.1 77 1).toInt → (M1.2.1 77 1).toInt = 0))) (fun r M1 a0 a1 a2 a3 a4 a5 a6 a7 a8 a9 => ⟨r, rfl, a0, a1, a2, a3, a4, a5, a6, a7, a8, a9⟩)) (E_173 hX (by omega) hG q1 q7 q8 q9 (t := t) (nn := nn) (n := n) (Q := (fun v M1 => ∃ r : Int32, v = some (.int r) ∧ (n.toInt < 0 ∨ (M.2.1 77 1).toInt < n.toInt → r.toInt = -2) ∧ ((0 ≤ n.toInt ∧ n.toInt ≤ (M.2.1 77 1).toInt → PAN (x_plan t nn 23 0 x_s0 (x_sk t nn 0)) r.toInt)) ∧ (-2 ≤ r.toInt) ∧ (r.toInt < 0 → (M1.2.1 77 28).toInt = (M.2.1 77 28).toInt ∧ (M1.2.1 77 29).toInt = (M.2.1 77 29).toInt ∧ (M1.2.1 77 41).toInt = (M.2.1 77 41).toInt) ∧ (0 ≤ r.toInt → (M1.2.1 77 28).toInt = 0 ∧ (M1.2.1 77 29).toInt = 0 ∧ (M1.2.1 77 41).toInt = 0) ∧ ((r.toInt < 0 → ∀ s9 : x_S, PLk2 M s9 → PLk2 M1 s9)) ∧ ((0 ≤ r.toInt → ∃ s2 : x_S, x_plan t nn 23 0 x_s0 (x_sk t nn 0) = some (r.toInt, s2) ∧ PLk2 M1 s2)))) (fun r M1 _ _ b0 b1 b2 b3 b4 b5 b6 => ⟨r, rfl, b0, b1, b2, b3, b4, b5, b6⟩))) ?_
  intro v M1 hh
  obtain ⟨⟨r, hv, a0, a1, a2, a3, a4, a5, a6, a7, a8, a9⟩, ⟨r2, hv2, b0, b1, b2, b3, b4, b5, b6⟩⟩ := hh
  have e : r2 = r := by
    rw [hv] at hv2
    injection hv2 with z
    injection z with z
    exact z.symm
  subst e
  subst hv
  exact h _ M1 a0 a1 a2 a3 a4 a5 a6 a7 a8 a9 b0 b1 b2 b3 b4 b5 b6
