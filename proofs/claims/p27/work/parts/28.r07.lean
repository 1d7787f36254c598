set_option maxRecDepth 4000 in
set_option maxHeartbeats 0 in
theorem E_248 {X : mm_X} {d : Nat} {M : mm_M} {Q : Option Value → mm_M → Prop} {x : Int64} (hX : g_X X) (hd : 0 ≤ d) (hG : g_G M) (q1 : 0 ≤ x.toInt) (q2 : x.toInt < 4611686018427387904) (h : ∀ (r : Int32) (M1 : mm_M), g_G M1 → FR md_0 M M1 → (r.toInt = ((x_ct x.toInt.toNat 62 : Nat) : Int)) → Q (some (.int r)) M1) : mm_T X d 247 0 [.long x, .null] [] M Q := by
  have F0 : FR md_0 M M := FR.rf
  refine to_ln (pc := 0) rw_248_0 rfl rfl rfl (to_ln (pc := 1) rw_248_1 rfl rfl rfl (to_c (pc := 2) rw_248_2 (x := (1 : Int32)) rfl rfl (s_opSE (pc := 3) rw_248_3 (w := ((x.toUInt64 >>> ((1 : Int32).toInt64.toUInt64 &&& Int64.toUInt64 63)).toInt64)) rfl (fun l1 e2 => ?_))))
  have u_3 : l1.toInt = x.toInt / 2 := by rw [← e2]; exact l_ushr (k := 1) (by decide) (by omega)
  refine to_cl (pc := 4) rw_248_4 rfl (x := (6148914691236517205 : Int64)) rfl (s_opLE (pc := 7) rw_248_7 (w := l1 &&& (6148914691236517205 : Int64)) rfl (fun l4 e5 => ?_))
  have u_6 : l4.toInt = ((l1.toInt.toNat &&& 6148914691236517205 : Nat) : Int) := by rw [← e5]; exact l_and_n (by omega) (by decide)
  have z_7 := (Nat.and_le_left : (l1.toInt.toNat &&& 6148914691236517205) ≤ l1.toInt.toNat)
  have z_8 := (Nat.and_le_right : (l1.toInt.toNat &&& 6148914691236517205) ≤ 6148914691236517205)
  refine s_opLE (pc := 8) rw_248_8 (w := x - l4) rfl (fun l9 e10 => ?_)
  have u_11 : l9.toInt = x.toInt - l4.toInt := by rw [← e10]; exact l_sub (by omega)
  refine to_lsn (pc := 9) rw_248_9 (ls2 := [.long l9, .null]) rfl rfl (to_ln (pc := 10) rw_248_10 rfl rfl rfl (to_cl (pc := 11) rw_248_11 rfl (x := (3689348814741910323 : Int64)) rfl (s_opLE (pc := 14) rw_248_14 (w := l9 &&& (3689348814741910323 : Int64)) rfl (fun l12 e13 => ?_))))
  have u_14 : l12.toInt = ((l9.toInt.toNat &&& 3689348814741910323 : Nat) : Int) := by rw [← e13]; exact l_and_n (by omega) (by decide)
  have z_15 := (Nat.and_le_left : (l9.toInt.toNat &&& 3689348814741910323) ≤ l9.toInt.toNat)
  have z_16 := (Nat.and_le_right : (l9.toInt.toNat &&& 3689348814741910323) ≤ 3689348814741910323)
  refine to_ln (pc := 15) rw_248_15 rfl rfl rfl (to_c (pc := 16) rw_248_16 (x := (2 : Int32)) rfl rfl (s_opSE (pc := 17) rw_248_17 (w := ((l9.toUInt64 >>> ((2 : Int32).toInt64.toUInt64 &&& Int64.toUInt64 63)).toInt64)) rfl (fun l17 e18 => ?_)))
  have u_19 : l17.toInt = l9.toInt / 4 := by rw [← e18]; exact l_ushr (k := 2) (by decide) (by omega)
  refine to_cl (pc := 18) rw_248_18 rfl (x := (3689348814741910323 : Int64)) rfl (s_opLE (pc := 21) rw_248_21 (w := l17 &&& (3689348814741910323 : Int64)) rfl (fun l20 e21 => ?_))
  have u_22 : l20.toInt = ((l17.toInt.toNat &&& 3689348814741910323 : Nat) : Int) := by rw [← e21]; exact l_and_n (by omega) (by decide)
  have z_23 := (Nat.and_le_left : (l17.toInt.toNat &&& 3689348814741910323) ≤ l17.toInt.toNat)
  have z_24 := (Nat.and_le_right : (l17.toInt.toNat &&& 3689348814741910323) ≤ 3689348814741910323)
  refine s_opLE (pc := 22) rw_248_22 (w := l12 + l20) rfl (fun l25 e26 => ?_)
  have u_27 : l25.toInt = l12.toInt + l20.toInt := by rw [← e26]; exact l_add (by omega)
  refine to_lsn (pc := 23) rw_248_23 (ls2 := [.long l25, .null]) rfl rfl (to_ln (pc := 24) rw_248_24 rfl rfl rfl (to_ln (pc := 25) rw_248_25 rfl rfl rfl (to_c (pc := 26) rw_248_26 (x := (4 : Int32)) rfl rfl (s_opSE (pc := 27) rw_248_27 (w := ((l25.toUInt64 >>> ((4 : Int32).toInt64.toUInt64 &&& Int64.toUInt64 63)).toInt64)) rfl (fun l28 e29 => ?_)))))
  have u_30 : l28.toInt = l25.toInt / 16 := by rw [← e29]; exact l_ushr (k := 4) (by decide) (by omega)
  refine s_opLE (pc := 28) rw_248_28 (w := l25 + l28) rfl (fun l31 e32 => ?_)
  have u_33 : l31.toInt = l25.toInt + l28.toInt := by rw [← e32]; exact l_add (by omega)
  refine to_cl (pc := 29) rw_248_29 rfl (x := (1085102592571150095 : Int64)) rfl (s_opLE (pc := 32) rw_248_32 (w := l31 &&& (1085102592571150095 : Int64)) rfl (fun l34 e35 => ?_))
  have u_36 : l34.toInt = ((l31.toInt.toNat &&& 1085102592571150095 : Nat) : Int) := by rw [← e35]; exact l_and_n (by omega) (by decide)
  have z_37 := (Nat.and_le_left : (l31.toInt.toNat &&& 1085102592571150095) ≤ l31.toInt.toNat)
  have z_38 := (Nat.and_le_right : (l31.toInt.toNat &&& 1085102592571150095) ≤ 1085102592571150095)
  refine to_lsn (pc := 33) rw_248_33 (ls2 := [.long l34, .null]) rfl rfl (to_ln (pc := 34) rw_248_34 rfl rfl rfl (to_ln (pc := 35) rw_248_35 rfl rfl rfl (to_c (pc := 36) rw_248_36 (x := (8 : Int32)) rfl rfl (s_opSE (pc := 38) rw_248_38 (w := ((l34.toUInt64 >>> ((8 : Int32).toInt64.toUInt64 &&& Int64.toUInt64 63)).toInt64)) rfl (fun l39 e40 => ?_)))))
  have u_41 : l39.toInt = l34.toInt / 256 := by rw [← e40]; exact l_ushr (k := 8) (by decide) (by omega)
  refine s_opLE (pc := 39) rw_248_39 (w := l34 + l39) rfl (fun l42 e43 => ?_)
  have u_44 : l42.toInt = l34.toInt + l39.toInt := by rw [← e43]; exact l_add (by omega)
  refine to_lsn (pc := 40) rw_248_40 (ls2 := [.long l42, .null]) rfl rfl (to_ln (pc := 41) rw_248_41 rfl rfl rfl (to_ln (pc := 42) rw_248_42 rfl rfl rfl (to_c (pc := 43) rw_248_43 (x := (16 : Int32)) rfl rfl (s_opSE (pc := 45) rw_248_45 (w := ((l42.toUInt64 >>> ((16 : Int32).toInt64.toUInt64 &&& Int64.toUInt64 63)).toInt64)) rfl (fun l45 e46 => ?_)))))
  have u_47 : l45.toInt = l42.toInt / 65536 := by rw [← e46]; exact l_ushr (k := 16) (by decide) (by omega)
  refine s_opLE (pc := 46) rw_248_46 (w := l42 + l45) rfl (fun l48 e49 => ?_)
  have u_50 : l48.toInt = l42.toInt + l45.toInt := by rw [← e49]; exact l_add (by omega)
  refine to_lsn (pc := 47) rw_248_47 (ls2 := [.long l48, .null]) rfl rfl (to_ln (pc := 48) rw_248_48 rfl rfl rfl (to_ln (pc := 49) rw_248_49 rfl rfl rfl (to_c (pc := 50) rw_248_50 (x := (32 : Int32)) rfl rfl (s_opSE (pc := 52) rw_248_52 (w := ((l48.toUInt64 >>> ((32 : Int32).toInt64.toUInt64 &&& Int64.toUInt64 63)).toInt64)) rfl (fun l51 e52 => ?_)))))
  have u_53 : l51.toInt = l48.toInt / 4294967296 := by rw [← e52]; exact l_ushr (k := 32) (by decide) (by omega)
  refine s_opLE (pc := 53) rw_248_53 (w := l48 + l51) rfl (fun l54 e55 => ?_)
  have u_56 : l54.toInt = l48.toInt + l51.toInt := by rw [← e55]; exact l_add (by omega)
  refine to_lsn (pc := 54) rw_248_54 (ls2 := [.long l54, .null]) rfl rfl (to_ln (pc := 55) rw_248_55 rfl rfl rfl (s_l2iE (pc := 56) rw_248_56 (fun v57 e58 => to_c (pc := 57) rw_248_57 (x := (127 : Int32)) rfl rfl (s_and (pc := 59) rw_248_59 (B := 127) rfl (by omega) (fun v59 e60 _ _ => ?_)))))
  have u_61 : v59.toInt = l54.toInt % 128 := l_low (by omega) e58 e60
  refine to_r0 (pc := 60) rw_248_60 ?_
  have z_62 := bl_all (x := x.toInt) (by omega) (by omega) u_3 u_6 u_11 u_14 u_19 u_22 u_27 u_30 u_33 u_36 u_41 u_44 u_47 u_50 u_53 u_56 u_61
  exact h v59 M hG F0 (by omega)
set_option maxRecDepth 4000 in
set_option maxHeartbeats 0 in
theorem U_151l_0 {X : mm_X} {d : Nat} {M : mm_M} {Q : Option Value → mm_M → Prop} {x : Int64} (hX : g_X X) (hd : 1 ≤ d) (q1 : 0 ≤ x.toInt) (h : ∀ (r : Int32) (M1 : mm_M), g_G M1 → FR md_0 M M1 → (r.toInt = ((x_ct x.toInt.toNat 62 : Nat) : Int)) → Q (some (.int r)) M1) : ∀ nn9 : Nat, (∀ (N : mm_M) (x2 : Int32) (x3 : Int32), g_G N → FR md_0 M N → (0 ≤ x3.toInt) → (x3.toInt ≤ 62) → (0 ≤ x2.toInt) → (x2.toInt ≤ 62) → (x2.toInt ≤ x3.toInt) → ((x2.toInt) = ((x_ct x.toInt.toNat (x3.toInt).toNat : Nat) : Int)) → 62 - x3.toInt < (nn9 : Int) → mm_T X d 150 4 [.long x, .null, .int x2, .int x3] [] N Q) := by
  intro nn9
  induction nn9 with
  | zero =>
    intro N x2 x3 hG F0 g1 g2 g3 g4 g5 g6 hm
    exfalso; omega
  | succ nn9 ih =>
    intro N x2 x3 hG F0 g1 g2 g3 g4 g5 g6 hm
    refine to_in (pc := 4) rw_151_4 rfl (to_c (pc := 5) rw_151_5 (x := (62 : Int32)) rfl rfl (b_cge (pc := 7) rw_151_7 (A := x3.toInt) (B := 62) rfl rfl (fun h1 => ?_) (fun h1 => ?_)))
    · refine to_in (pc := 32) rw_151_32 rfl (to_r0 (pc := 33) rw_151_33 ?_)
      have z_2 := (g6.trans (by rw [show (x3.toInt).toNat = 62 by omega]) : x2.toInt = ((x_ct x.toInt.toNat 62 : Nat) : Int))
      exact h x2 N hG F0 (by omega)
    · refine to_in (pc := 10) rw_151_10 rfl (to_ln (pc := 11) rw_151_11 rfl rfl rfl (to_in (pc := 12) rw_151_12 rfl (s_s (pc := 13) rw_151_13 (dp0 hd (by decide)) (ls0 := [.long x, .null, .int x3]) rfl (Nat.le_of_ble_eq_true rfl) (Nat.le_of_ble_eq_true rfl) rfl (to_rcs rfl rfl) rfl (to_ln (pc := 0) rw_150_0 rfl rfl rfl (to_in (pc := 1) rw_150_1 rfl (to_2s (pc := 2) rw_150_2 (v := (x >>> (x3.toInt64 &&& 63))) rfl (to_cl (pc := 3) rw_150_3 rfl (x := (1 : Int64)) rfl (to_2l (pc := 4) rw_150_4 (v := ((x >>> (x3.toInt64 &&& 63)) &&& (1 : Int64))) rfl (to_cl (pc := 5) rw_150_5 rfl (x := (1 : Int64)) rfl (s_lcmpE (pc := 6) rw_150_6 (fun v3 e4 => ?_)))))))))))
      have b_5 := x_eq_b (x := ((x >>> (x3.toInt64 &&& 63)) &&& (1 : Int64))) (y := (1 : Int64))
      have z_6 := l_many (x := x) (v := x3) (h := x3.toInt) (by omega) (by omega) (by omega) (by omega)
      refine b_ine (pc := 7) rw_150_7 (A := v3.toInt) rfl (fun h7 => ?_) (fun h7 => ?_)
      · refine to_c (pc := 14) rw_150_14 (x := (0 : Int32)) rfl rfl (s_r1 (pc := 15) rw_150_15 (A := 0) rfl (by decide) (b_ieq_t (pc := 16) rw_151_16 (A := 0) rfl (by decide) (to_c (pc := 23) rw_151_23 (x := (0 : Int32)) rfl rfl (s_add (pc := 24) rw_151_24 (A := x2.toInt) (B := 0) rfl rfl (by omega) (fun v8 e9 => to_isn (pc := 25) rw_151_25 (ls2 := [.long x, .null, .int v8, .int x3]) rfl rfl (s_inc (pc := 26) rw_151_26 (ls2 := fun v => [.long x, .null, .int v8, .int v]) rfl rfl (fun _ => rfl) (A := x3.toInt) (B := 1) rfl rfl (by omega) (fun v10 e11 => to_go (pc := 29) rw_151_29 ?_)))))))
        exact ih N v8 v10 hG F0 (by omega) (by omega) (by omega) (by omega) (by omega) (x_ct_s (by omega) g6 (by omega) (by omega)) (by omega)
      · refine to_c (pc := 10) rw_150_10 (x := (1 : Int32)) rfl rfl (to_go (pc := 11) rw_150_11 (s_r1 (pc := 15) rw_150_15 (A := 1) rfl (by decide) (b_ieq_f (pc := 16) rw_151_16 (A := 1) rfl (by decide) (to_c (pc := 19) rw_151_19 (x := (1 : Int32)) rfl rfl (to_go (pc := 20) rw_151_20 (s_add (pc := 24) rw_151_24 (A := x2.toInt) (B := 1) rfl rfl (by omega) (fun v12 e13 => to_isn (pc := 25) rw_151_25 (ls2 := [.long x, .null, .int v12, .int x3]) rfl rfl (s_inc (pc := 26) rw_151_26 (ls2 := fun v => [.long x, .null, .int v12, .int v]) rfl rfl (fun _ => rfl) (A := x3.toInt) (B := 1) rfl rfl (by omega) (fun v14 e15 => to_go (pc := 29) rw_151_29 ?_)))))))))
        exact ih N v12 v14 hG F0 (by omega) (by omega) (by omega) (by omega) (by omega) (x_ct_s (by omega) g6 (by omega) (by omega)) (by omega)
set_option maxRecDepth 4000 in
set_option maxHeartbeats 0 in
theorem E_151l {X : mm_X} {d : Nat} {M : mm_M} {Q : Option Value → mm_M → Prop} {x : Int64} (hX : g_X X) (hd : 1 ≤ d) (hG : g_G M) (q1 : 0 ≤ x.toInt) (h : ∀ (r : Int32) (M1 : mm_M), g_G M1 → FR md_0 M M1 → (r.toInt = ((x_ct x.toInt.toNat 62 : Nat) : Int)) → Q (some (.int r)) M1) : mm_T X d 150 0 [.long x, .null, .null, .null] [] M Q := by
  have F0 : FR md_0 M M := FR.rf
  refine to_c (pc := 0) rw_151_0 (x := (0 : Int32)) rfl rfl (to_isn (pc := 1) rw_151_1 (ls2 := [.long x, .null, .int (0 : Int32), .null]) rfl rfl (to_c (pc := 2) rw_151_2 (x := (0 : Int32)) rfl rfl (to_isn (pc := 3) rw_151_3 (ls2 := [.long x, .null, .int (0 : Int32), .int (0 : Int32)]) rfl rfl ?_)))
  have k_16 : (0 : Int32).toInt = 0 := rfl
  exact (U_151l_0 (x := x) hX hd q1 h ((62 - (0 : Int32).toInt).toNat + 1)) M (0 : Int32) (0 : Int32) hG F0 (by omega) (by omega) (by omega) (by omega) (by omega) rfl (by omega)
set_option maxRecDepth 4000 in
set_option maxHeartbeats 0 in
theorem U_145_0 {X : mm_X} {d : Nat} {M : mm_M} {Q : Option Value → mm_M → Prop} {a : Int32} {c : Int32} (hX : g_X X) (hd : 0 ≤ d) (q1 : 0 ≤ a.toInt) (q2 : a.toInt ≤ 64) (q3 : 1 ≤ c.toInt) (q4 : c.toInt ≤ 4) (h : ∀ (r : Int64) (M1 : mm_M), g_G M1 → FR md_0 M M1 → (r = x_ways a.toInt c.toInt) → Q (some (.long r)) M1) : ∀ nn9 : Nat, (∀ (N : mm_M) (y2 : Int64) (x4 : Int32), g_G N → FR md_0 M N → (1 ≤ x4.toInt) → (x4.toInt ≤ 5) → (x4.toInt ≤ c.toInt + 1) → (x_wy a.toInt c.toInt (c.toInt + 1 - x4.toInt).toNat x4.toInt y2 = x_wy a.toInt c.toInt (c.toInt).toNat 1 1) → 5 - x4.toInt < (nn9 : Int) → mm_T X d 145 5 [.int a, .int c, .long y2, .null, .int x4] [] N Q) := by
  intro nn9
  induction nn9 with
  | zero =>
    intro N y2 x4 hG F0 g1 g2 g3 g4 hm
    exfalso; omega
  | succ nn9 ih =>
    intro N y2 x4 hG F0 g1 g2 g3 g4 hm
    refine to_i (pc := 5) rw_145_5 rfl (to_in (pc := 7) rw_145_7 rfl (b_cgt (pc := 8) rw_145_8 (A := x4.toInt) (B := c.toInt) rfl rfl (fun h1 => ?_) (fun h1 => ?_)))
    · refine to_in (pc := 31) rw_145_31 rfl (to_in (pc := 32) rw_145_32 rfl (b_cge (pc := 33) rw_145_33 (A := a.toInt) (B := c.toInt) rfl rfl (fun h2 => ?_) (fun h2 => ?_)))
      · refine to_ln (pc := 40) rw_145_40 rfl rfl rfl (to_rl (pc := 41) rw_145_41 ?_)
        exact h y2 N hG F0 (x_ways_y (i := x4.toInt) (by omega) (by omega) (by omega) (by omega) g4)
      · refine to_cl (pc := 36) rw_145_36 rfl (x := (0 : Int64)) rfl (to_go (pc := 37) rw_145_37 (to_rl (pc := 41) rw_145_41 ?_))
        exact h (0 : Int64) N hG F0 (x_ways_0 (by omega))
    · refine to_ln (pc := 11) rw_145_11 rfl rfl rfl (to_in (pc := 12) rw_145_12 rfl (to_in (pc := 13) rw_145_13 rfl (s_sub (pc := 14) rw_145_14 (A := a.toInt) (B := c.toInt) rfl rfl (by omega) (fun v3 e4 => to_i (pc := 15) rw_145_15 rfl (s_add (pc := 17) rw_145_17 (A := v3.toInt) (B := x4.toInt) rfl rfl (by omega) (fun v5 e6 => to_i2l (pc := 18) rw_145_18 (v := (v5.toInt64)) rfl (to_2l (pc := 19) rw_145_19 (v := (y2 * (v5.toInt64))) rfl (to_i (pc := 20) rw_145_20 rfl (to_i2l (pc := 22) rw_145_22 (v := (x4.toInt64)) rfl (s_ldivE (pc := 23) rw_145_23 (l_ne0 (by omega)) (to_lsn (pc := 24) rw_145_24 (ls2 := [.int a, .int c, .long ((y2 * (v5.toInt64)) / (x4.toInt64)), .null, .int x4]) rfl rfl ?_)))))))))))
      refine s_inc (pc := 25) rw_145_25 (ls2 := fun v => [.int a, .int c, .long ((y2 * (v5.toInt64)) / (x4.toInt64)), .null, .int v]) rfl rfl (fun _ => rfl) (A := x4.toInt) (B := 1) rfl rfl (by omega) (fun v7 e8 => to_go (pc := 28) rw_145_28 ?_)
      exact ih N ((y2 * (v5.toInt64)) / (x4.toInt64)) v7 hG F0 (by omega) (by omega) (by omega) (x_wy_s (i := x4.toInt) (v := v5) (w := x4) (by omega) (by omega) (by omega) (by omega) g4) (by omega)
set_option maxRecDepth 4000 in
set_option maxHeartbeats 0 in
theorem E_145 {X : mm_X} {d : Nat} {M : mm_M} {Q : Option Value → mm_M → Prop} {a : Int32} {c : Int32} (hX : g_X X) (hd : 0 ≤ d) (hG : g_G M) (q1 : 0 ≤ a.toInt) (q2 : a.toInt ≤ 64) (q3 : 1 ≤ c.toInt) (q4 : c.toInt ≤ 4) (h : ∀ (r : Int64) (M1 : mm_M), g_G M1 → FR md_0 M M1 → (r = x_ways a.toInt c.toInt) → Q (some (.long r)) M1) : mm_T X d 145 0 [.int a, .int c, .null, .null, .null] [] M Q := by
  have F0 : FR md_0 M M := FR.rf
  refine to_cl (pc := 0) rw_145_0 rfl (x := (1 : Int64)) rfl (to_lsn (pc := 1) rw_145_1 (ls2 := [.int a, .int c, .long (1 : Int64), .null, .null]) rfl rfl (to_c (pc := 2) rw_145_2 (x := (1 : Int32)) rfl rfl (to_is (pc := 3) rw_145_3 (ls2 := [.int a, .int c, .long (1 : Int64), .null, .int (1 : Int32)]) rfl rfl ?_)))
  have k_9 : (1 : Int32).toInt = 1 := rfl
  exact (U_145_0 (a := a) (c := c) hX hd q1 q2 q3 q4 h ((5 - (1 : Int32).toInt).toNat + 1)) M (1 : Int64) (1 : Int32) hG F0 (by omega) (by omega) (by omega) (by rw [show (c.toInt + 1 - (1 : Int32).toInt).toNat = c.toInt.toNat by rw [show (1 : Int32).toInt = 1 from rfl]; congr 1; omega]; rfl) (by omega)
set_option maxRecDepth 4000 in
set_option maxHeartbeats 0 in
theorem U_230_0 {X : mm_X} {d : Nat} {M : mm_M} {Q : Option Value → mm_M → Prop} {n : Int32} {k : Int32} (hX : g_X X) (hd : 0 ≤ d) (q1 : 0 ≤ n.toInt) (q2 : n.toInt ≤ 64) (q3 : 0 ≤ k.toInt) (q4 : k.toInt ≤ 24) (h : ∀ (r : Int64) (M1 : mm_M), g_G M1 → FR md_0 M M1 → (r = x_ways n.toInt k.toInt) → Q (some (.long r)) M1) : ∀ nn9 : Nat, (∀ (N : mm_M) (y2 : Int64) (x4 : Int32), g_G N → FR md_0 M N → (0 ≤ x4.toInt) → (x4.toInt ≤ k.toInt) → (x4.toInt ≤ 24) → (x_ch n.toInt (k.toInt - x4.toInt).toNat x4.toInt y2 = x_ch n.toInt (k.toInt).toNat 0 1) → 24 - x4.toInt < (nn9 : Int) → mm_T X d 229 5 [.int n, .int k, .long y2, .null, .int x4] [] N Q) := by
  intro nn9
  induction nn9 with
  | zero =>
    intro N y2 x4 hG F0 g1 g2 g3 g4 hm
    exfalso; omega
  | succ nn9 ih =>
    intro N y2 x4 hG F0 g1 g2 g3 g4 hm
    refine to_i (pc := 5) rw_230_5 rfl (to_in (pc := 7) rw_230_7 rfl (b_cge (pc := 8) rw_230_8 (A := x4.toInt) (B := k.toInt) rfl rfl (fun h1 => ?_) (fun h1 => ?_)))
    · refine to_in (pc := 31) rw_230_31 rfl (to_in (pc := 32) rw_230_32 rfl (b_cge (pc := 33) rw_230_33 (A := n.toInt) (B := k.toInt) rfl rfl (fun h2 => ?_) (fun h2 => ?_)))
      · refine to_ln (pc := 40) rw_230_40 rfl rfl rfl (to_rl (pc := 41) rw_230_41 ?_)
        exact h y2 N hG F0 (x_ways_c (i := x4.toInt) (by omega) (by omega) g4)
      · refine to_cl (pc := 36) rw_230_36 rfl (x := (0 : Int64)) rfl (to_go (pc := 37) rw_230_37 (to_rl (pc := 41) rw_230_41 ?_))
        exact h (0 : Int64) N hG F0 (x_ways_0 (by omega))
    · refine to_ln (pc := 11) rw_230_11 rfl rfl rfl (to_in (pc := 12) rw_230_12 rfl (to_i (pc := 13) rw_230_13 rfl (s_sub (pc := 15) rw_230_15 (A := n.toInt) (B := x4.toInt) rfl rfl (by omega) (fun v3 e4 => to_i2l (pc := 16) rw_230_16 (v := (v3.toInt64)) rfl (to_2l (pc := 17) rw_230_17 (v := (y2 * (v3.toInt64))) rfl (to_i (pc := 18) rw_230_18 rfl (to_c (pc := 20) rw_230_20 (x := (1 : Int32)) rfl rfl (s_add (pc := 21) rw_230_21 (A := x4.toInt) (B := 1) rfl rfl (by omega) (fun v5 e6 => to_i2l (pc := 22) rw_230_22 (v := (v5.toInt64)) rfl (s_ldivE (pc := 23) rw_230_23 (l_ne0 (by omega)) (to_lsn (pc := 24) rw_230_24 (ls2 := [.int n, .int k, .long ((y2 * (v3.toInt64)) / (v5.toInt64)), .null, .int x4]) rfl rfl ?_)))))))))))
      refine s_inc (pc := 25) rw_230_25 (ls2 := fun v => [.int n, .int k, .long ((y2 * (v3.toInt64)) / (v5.toInt64)), .null, .int v]) rfl rfl (fun _ => rfl) (A := x4.toInt) (B := 1) rfl rfl (by omega) (fun v7 e8 => to_go (pc := 28) rw_230_28 ?_)
      exact ih N ((y2 * (v3.toInt64)) / (v5.toInt64)) v7 hG F0 (by omega) (by omega) (by omega) (x_ch_s (i := x4.toInt) (v := v3) (w := v5) (by omega) (by omega) (by omega) (by omega) g4) (by omega)
set_option maxRecDepth 4000 in
set_option maxHeartbeats 0 in
theorem E_230 {X : mm_X} {d : Nat} {M : mm_M} {Q : Option Value → mm_M → Prop} {n : Int32} {k : Int32} (hX : g_X X) (hd : 0 ≤ d) (hG : g_G M) (q1 : 0 ≤ n.toInt) (q2 : n.toInt ≤ 64) (q3 : 0 ≤ k.toInt) (q4 : k.toInt ≤ 24) (h : ∀ (r : Int64) (M1 : mm_M), g_G M1 → FR md_0 M M1 → (r = x_ways n.toInt k.toInt) → Q (some (.long r)) M1) : mm_T X d 229 0 [.int n, .int k, .null, .null, .null] [] M Q := by
  have F0 : FR md_0 M M := FR.rf
  refine to_cl (pc := 0) rw_230_0 rfl (x := (1 : Int64)) rfl (to_lsn (pc := 1) rw_230_1 (ls2 := [.int n, .int k, .long (1 : Int64), .null, .null]) rfl rfl (to_c (pc := 2) rw_230_2 (x := (0 : Int32)) rfl rfl (to_is (pc := 3) rw_230_3 (ls2 := [.int n, .int k, .long (1 : Int64), .null, .int (0 : Int32)]) rfl rfl ?_)))
  have k_9 : (0 : Int32).toInt = 0 := rfl
  exact (U_230_0 (n := n) (k := k) hX hd q1 q2 q3 q4 h ((24 - (0 : Int32).toInt).toNat + 1)) M (1 : Int64) (0 : Int32) hG F0 (by omega) (by omega) (by omega) (by rw [show (k.toInt - (0 : Int32).toInt).toNat = k.toInt.toNat by rw [show (0 : Int32).toInt = 0 from rfl]; congr 1; omega]; rfl) (by omega)
set_option maxRecDepth 4000 in
set_option maxHeartbeats 0 in
theorem E_232 {X : mm_X} {d : Nat} {M : mm_M} {Q : Option Value → mm_M → Prop} {c : Int32} {f : Int32} {sg : x_S} {ca : Int} {K : x_Kn} (hX : g_X X) (hd : 1 ≤ d) (hG : g_G M) (q1 : 0 ≤ c.toInt) (q2 : c.toInt < ca) (q3 : ca ≤ 30) (q4 : 0 ≤ f.toInt) (q5 : f.toInt < sg.2.1) (q6 : PLk M sg) (q7 : KST M 96 98 97 95 ca sg K) (h : ∀ (r : Int64) (M1 : mm_M), g_G M1 → FR md_0 M M1 → (r = K.1 (c.toInt).toNat &&& x_bw (x_row sg 3 f.toInt) (x_row sg 4 f.toInt)) → Q (some (.long r)) M1) : mm_T X d 231 0 [.ref 77, .int c, .int f] [] M Q := by
  have F0 : FR md_0 M M := FR.rf
  have z_1 := q6.2.1
  have z_2 := q6.2.2.1
  have z_3 := q6.2.2.2.1
  have z_4 := q6.1
  have z_5 := z_4.1
  have z_6 := z_4.2.1
  have z_7 := z_4.2.2.1
  have z_8 := z_4.2.2.2.1
  have z_9 := z_4.2.2.2.2.1
  have z_10 := z_4.2.2.2.2.2.1
  have b_11 := g_b hG (a := 77) (i := 11) (lo := 10) (hi := 60) rfl rfl
  have b_12 := g_b hG (a := 77) (i := 12) (lo := 0) (hi := 8) rfl rfl
  have b_13 := g_b hG (a := 77) (i := 13) (lo := 0) (hi := 12) rfl rfl
  have z_14 := q6.1.2.2.2.2.2.2.2 f.toInt (by omega) (by omega)
  refine to_an (pc := 0) rw_232_0 rfl (s_gR (pc := 1) rw_232_1 hG rfl (v := 96) rfl (to_in (pc := 4) rw_232_4 rfl (s_lalE (pc := 5) rw_232_5 hG rfl (n := 30) rfl (A := c.toInt) rfl (by omega) (by omega) (fun l15 w_16 => ?_))))
  have z_17 : l15 = K.1 (c.toInt).toNat := KST_lc (K := (K.1, K.2.1, K.2.2.1, K.2.2.2)) q7 (by omega) (by omega) w_16
  refine to_an (pc := 6) rw_232_6 rfl (s_gR (pc := 7) rw_232_7 hG rfl (v := 82) rfl (to_in (pc := 10) rw_232_10 rfl (s_ial (pc := 11) rw_232_11 hG rfl (n := 16) rfl rfl (A := f.toInt) rfl (by omega) (by omega) (lo := 0) (hi := 59) rfl rfl (fun v18 w_19 _ _ => ?_))))
  have z_20 := PLk_r q6 3 82 rfl (by decide) (by decide) (k := f.toInt) (by omega) (by omega) w_19
  refine to_an (pc := 12) rw_232_12 rfl (s_gR (pc := 13) rw_232_13 hG rfl (v := 83) rfl (to_in (pc := 16) rw_232_16 rfl (s_ial (pc := 17) rw_232_17 hG rfl (n := 16) rfl rfl (A := f.toInt) rfl (by omega) (by omega) (lo := 0) (hi := 63) rfl rfl (fun v21 w_22 _ _ => ?_))))
  have z_23 := PLk_r q6 4 83 rfl (by decide) (by decide) (k := f.toInt) (by omega) (by omega) w_22
  refine s_s (pc := 18) rw_232_18 (dp0 hd (by decide)) (ls0 := [.int v18, .int v21, .null, .null, .null]) rfl (Nat.le_of_ble_eq_true rfl) (Nat.le_of_ble_eq_true rfl) rfl (to_rcs rfl rfl) rfl (E_168 hX (dp1 hd (by decide)) hG (by omega) (by omega) (by omega) (by omega) (by omega) (a := v18) (b := v21) (fun r24 M28 hG26 F25 p_27 => ?_))
  have F29 := FR.c F0 F25 tg_29
  refine to_2l (pc := 21) rw_232_21 (v := (l15 &&& r24)) rfl (to_rl (pc := 22) rw_232_22 ?_)
  exact h (l15 &&& r24) M28 hG26 F29 (by rw [z_17, p_27.trans (x_bw_v (f2 := x_row sg 3 f.toInt) (l2 := x_row sg 4 f.toInt) (by omega) (by omega))])
set_option maxRecDepth 4000 in
set_option maxHeartbeats 0 in
theorem U_132_0 {X : mm_X} {d : Nat} {M : mm_M} {Q : Option Value → mm_M → Prop} {n : Int32} {w : Int32} {k : Int32} {p : Nat} {pz : Nat} {q : Nat} {qz : Nat} {sg : x_S} {NN : x_N} {nz : Int} {ca : Int} (hX : g_X X) (hd : 6 ≤ d) (hp : p = 49 ∨ p = 58) (hpz : pz = 49 ∨ pz = 58) (hq : q = 67 ∨ q = 72) (hqz : qz = 67 ∨ qz = 72) (q1 : g_PQ M p pz q qz) (q2 : PLs M p sg) (q3 : CW M p sg) (q4 : g_W2 X) (q5 : NTc M NN nz) (q6 : x_vn sg ca NN nz) (q7 : (M.2.1 6 0).toInt = nz) (q8 : (M.2.1 0 12).toInt = ca) (q9 : ca ≤ 30) (h : ∀ (r : Int64) (M1 : mm_M), g_G M1 → FR md_k M M1 → (r = x_likely sg NN nz ca n.toInt w.toInt k.toInt) → Q (some (.long r)) M1) : ∀ nn9 : Nat, (∀ (N : mm_M) (u1 : Value) (u3 : Value) (x4 : Int32) (x5 : Int32) (y6 : Int64) (x8 : Int32), g_G N → FR md_k M N → (0 ≤ x8.toInt) → (x8.toInt ≤ 30) → (x8.toInt ≤ ca) → (0 ≤ x4.toInt) → (x4.toInt ≤ 7) → (x4.toInt = x_row sg 7 w.toInt) → (1 ≤ x5.toInt) → (x5.toInt ≤ 24) → (x5.toInt = x_row sg 5 (x_row sg 7 w.toInt)) → (0 ≤ n.toInt) → (n.toInt ≤ nz) → (0 ≤ w.toInt) → (w.toInt ≤ 11) → (w.toInt < sg.2.2.1) → (0 ≤ k.toInt) → (k.toInt = 0) → ((N.2.1 0 12).toInt = ca) → ((N.2.1 6 0).toInt = nz) → (g_PQ N p pz q qz) → (PLs N p sg) → (KST N 12 13 14 15 ca sg (x_kn sg NN (n.toInt).toNat)) → (x_lk9 sg (x_kn sg NN (n.toInt).toNat) w.toInt x4.toInt x5.toInt (ca - x8.toInt).toNat (x8.toInt).toNat y6 = x_lk9 sg (x_kn sg NN (n.toInt).toNat) w.toInt x4.toInt x5.toInt ca.toNat 0 0) → 30 - x8.toInt < (nn9 : Int) → mm_T X d 132 86 [.ref 0, u1, .int w, u3, .int x4, .int x5, .long y6, .null, .int x8] [] N Q) := by
  intro nn9
  induction nn9 with
  | zero =>
    intro N u1 u3 x4 x5 y6 x8 hG F0 g1 g2 g3 g4 g5 g6 g7 g8 g9 g10 g11 g12 g13 g14 g15 g16 g17 g18 g19 g20 g21 g22 hm
    have b_1 := g_b hG (a := 0) (i := 12) (lo := 0) (hi := 30) rfl rfl
    have b_2 := g_b hG (a := 6) (i := 0) (lo := 0) (hi := 150) rfl rfl
    exfalso; omega
  | succ nn9 ih =>
    intro N u1 u3 x4 x5 y6 x8 hG F0 g1 g2 g3 g4 g5 g6 g7 g8 g9 g10 g11 g12 g13 g14 g15 g16 g17 g18 g19 g20 g21 g22 hm
    have b_3 := g_b hG (a := 0) (i := 12) (lo := 0) (hi := 30) rfl rfl
    have b_4 := g_b hG (a := 6) (i := 0) (lo := 0) (hi := 150) rfl rfl
    have z_5 := g20.2.1
    have z_6 := g20.2.2.1
    have z_7 := g20.2.2.2.1
    have z_8 := g20.1
    have z_9 := z_8.1
    have z_10 := z_8.2.1
    have z_11 := z_8.2.2.1
    have z_12 := z_8.2.2.2.1
    have z_13 := z_8.2.2.2.2.1
    have z_14 := z_8.2.2.2.2.2.1
    have b_15 := g_b hG (a := p) (i := 2) (lo := 0) (hi := 8) (by rcases hp with rfl | rfl <;> rfl) (by rcases hp with rfl | rfl <;> rfl)
    have b_16 := g_b hG (a := p) (i := 3) (lo := 0) (hi := 12) (by rcases hp with rfl | rfl <;> rfl) (by rcases hp with rfl | rfl <;> rfl)
    have z_17 := g20.1.2.2.2.2.2.2.1 w.toInt (by omega) (by omega)
    have z_18 := g20.1.2.2.2.2.2.2.2 (x_row sg 7 w.toInt) (by omega) (by omega)
    have z_19 := x_row_v (s := sg) (r := 3) (x := x4.toInt) (y := x_row sg 7 w.toInt) (by omega)
    have z_20 := x_row_v (s := sg) (r := 4) (x := x4.toInt) (y := x_row sg 7 w.toInt) (by omega)
    have z_21 := x_row_v (s := sg) (r := 5) (x := x4.toInt) (y := x_row sg 7 w.toInt) (by omega)
    refine to_i (pc := 86) rw_132_86 rfl (to_an (pc := 88) rw_132_88 rfl (tt_gI (pc := 89) rw_132_89 (g_o hG rfl) (v := (N.2.1 0 12)) rfl (b_cge (pc := 92) rw_132_92 (A := x8.toInt) (B := (N.2.1 0 12).toInt) rfl rfl (fun h22 => ?_) (fun h22 => ?_))))
    · refine to_l (pc := 147) rw_132_147 rfl rfl rfl (to_rl (pc := 149) rw_132_149 ?_)
      exact h y6 N hG F0 (x_likely_0 (by omega) (by omega) (x_lk_x (c := x8.toInt) (by omega) g22) (by omega) (by omega))
    · refine to_an (pc := 95) rw_132_95 rfl (s_gR (pc := 96) rw_132_96 hG rfl (v := 11) rfl (to_i (pc := 99) rw_132_99 rfl (to_in (pc := 101) rw_132_101 rfl (s_v (pc := 102) rw_132_102 (dp0 hd (by decide)) (ls0 := [.ref 11, .int x8, .int w]) rfl (Nat.le_of_ble_eq_true rfl) (Nat.le_of_ble_eq_true rfl) rfl (to_rc rfl rfl rfl (g_o hG rfl)) rfl (to_an (pc := 0) rw_13_0 rfl (s_gR (pc := 1) rw_13_1 hG rfl (v := 13) rfl (to_in (pc := 4) rw_13_4 rfl (s_ial (pc := 5) rw_13_5 hG rfl (n := 30) rfl rfl (A := x8.toInt) rfl (by omega) (by omega) (lo := -2147483648) (hi := 2147483647) rfl rfl (fun v23 w_24 _ _ => ?_)))))))))
      have z_25 : v23 = (x_kn sg NN (n.toInt).toNat).2.1 (x8.toInt).toNat := KST_lw (K := (x_kn sg NN (n.toInt).toNat)) g21 (by omega) (by omega) w_24
      refine to_in (pc := 6) rw_13_6 rfl (s_opE (pc := 7) rw_13_7 (w := v23 >>> w) rfl (fun v26 e27 => to_c (pc := 8) rw_13_8 (x := (1 : Int32)) rfl rfl (s_and (pc := 9) rw_13_9 (B := 1) rfl (by omega) (fun v28 e29 _ _ => ?_))))
      have z_30 : x_hw (x_kn sg NN (n.toInt).toNat) (x8.toInt).toNat w.toInt = v28.toInt := x_hw_e z_25 rfl e27 e29
      refine b_ieq (pc := 10) rw_13_10 (A := v28.toInt) rfl (fun h31 => ?_) (fun h31 => ?_)
      · refine to_c (pc := 17) rw_13_17 (x := (0 : Int32)) rfl rfl (s_r1 (pc := 18) rw_13_18 (A := 0) rfl (by decide) (b_ine_f (pc := 105) rw_132_105 (A := 0) rfl (by decide) (to_l (pc := 108) rw_132_108 rfl rfl rfl (to_an (pc := 110) rw_132_110 rfl (s_gR (pc := 111) rw_132_111 hG rfl (v := 11) rfl (s_gR (pc := 114) rw_132_114 hG rfl (v := 12) rfl (to_i (pc := 117) rw_132_117 rfl (s_lalE (pc := 119) rw_132_119 hG rfl (n := 30) rfl (A := x8.toInt) rfl (by omega) (by omega) (fun l32 w_33 => ?_)))))))))
        have z_34 : l32 = (x_kn sg NN (n.toInt).toNat).1 (x8.toInt).toNat := KST_lc (K := (x_kn sg NN (n.toInt).toNat)) g21 (by omega) (by omega) w_33
        refine to_an (pc := 120) rw_132_120 rfl (tt_gR (pc := 121) rw_132_121 (g_o hG rfl) g19.1 (to_i (pc := 124) rw_132_124 rfl (s_v (pc := 126) rw_132_126 (dp0 hd (by decide)) (ls0 := [.ref p, .int x4]) rfl (Nat.le_of_ble_eq_true rfl) (Nat.le_of_ble_eq_true rfl) rfl (to_rc rfl rfl rfl (g_o hG (by rcases hp with rfl | rfl <;> rfl))) rfl (to_an (pc := 0) rw_48_0 rfl (s_gR (pc := 1) rw_48_1 hG (by rcases hp with rfl | rfl <;> rfl) (v := (p + 3)) (by rcases hp with rfl | rfl <;> rfl) (to_in (pc := 4) rw_48_4 rfl (s_ial (pc := 5) rw_48_5 hG (by rcases hp with rfl | rfl <;> rfl) (n := 8) (by rcases hp with rfl | rfl <;> rfl) (by rcases hp with rfl | rfl <;> rfl) (A := x4.toInt) rfl (by omega) (by omega) (lo := 0) (hi := 59) (by rcases hp with rfl | rfl <;> rfl) (by rcases hp with rfl | rfl <;> rfl) (fun v35 w_36 _ _ => ?_))))))))
        have z_37 := PLs_r g20 3 (by decide) (by decide) (k := x4.toInt) (by omega) (by omega) w_36
        refine to_an (pc := 6) rw_48_6 rfl (s_gR (pc := 7) rw_48_7 hG (by rcases hp with rfl | rfl <;> rfl) (v := (p + 4)) (by rcases hp with rfl | rfl <;> rfl) (to_in (pc := 10) rw_48_10 rfl (s_ial (pc := 11) rw_48_11 hG (by rcases hp with rfl | rfl <;> rfl) (n := 8) (by rcases hp with rfl | rfl <;> rfl) (by rcases hp with rfl | rfl <;> rfl) (A := x4.toInt) rfl (by omega) (by omega) (lo := 0) (hi := 63) (by rcases hp with rfl | rfl <;> rfl) (by rcases hp with rfl | rfl <;> rfl) (fun v38 w_39 _ _ => ?_))))
        have z_40 := PLs_r g20 4 (by decide) (by decide) (k := x4.toInt) (by omega) (by omega) w_39
        refine s_s (pc := 12) rw_48_12 (dp1 hd (by decide)) (ls0 := [.int v35, .int v38]) rfl (Nat.le_of_ble_eq_true rfl) (Nat.le_of_ble_eq_true rfl) rfl (to_rcs rfl rfl) rfl (to_cl (pc := 0) rw_144_0 rfl (x := (1 : Int64)) rfl (to_in (pc := 1) rw_144_1 rfl (to_in (pc := 2) rw_144_2 rfl (s_sub (pc := 3) rw_144_3 (A := v38.toInt) (B := v35.toInt) rfl rfl (by omega) (fun v41 e42 => to_c (pc := 4) rw_144_4 (x := (1 : Int32)) rfl rfl (s_add (pc := 5) rw_144_5 (A := v41.toInt) (B := 1) rfl rfl (by omega) (fun v43 e44 => to_2s (pc := 6) rw_144_6 (v := ((1 : Int64) <<< (v43.toInt64 &&& 63))) rfl (to_cl (pc := 7) rw_144_7 rfl (x := (1 : Int64)) rfl (to_2l (pc := 8) rw_144_8 (v := (((1 : Int64) <<< (v43.toInt64 &&& 63)) - (1 : Int64))) rfl (to_in (pc := 9) rw_144_9 rfl (to_2s (pc := 10) rw_144_10 (v := ((((1 : Int64) <<< (v43.toInt64 &&& 63)) - (1 : Int64)) <<< (v35.toInt64 &&& 63))) rfl ?_)))))))))))
        refine to_rl (pc := 11) rw_144_11 (to_rl (pc := 15) rw_48_15 (to_2l (pc := 129) rw_132_129 (v := (l32 &&& ((((1 : Int64) <<< (v43.toInt64 &&& 63)) - (1 : Int64)) <<< (v35.toInt64 &&& 63)))) rfl (s_s (pc := 130) rw_132_130 (dp0 hd (by decide)) (ls0 := [.long (l32 &&& ((((1 : Int64) <<< (v43.toInt64 &&& 63)) - (1 : Int64)) <<< (v35.toInt64 &&& 63))), .null]) rfl (Nat.le_of_ble_eq_true rfl) (Nat.le_of_ble_eq_true rfl) rfl (to_rcs rfl rfl) rfl ?_)))
        have z_45 : (l32 &&& ((((1 : Int64) <<< (v43.toInt64 &&& 63)) - (1 : Int64)) <<< (v35.toInt64 &&& 63))) = (x_kn sg NN (n.toInt).toNat).1 (x8.toInt).toNat &&& x_bw (x_row sg 3 x4.toInt) (x_row sg 4 x4.toInt) := by rw [x_bw_e (v := v43) (f := v35) (a := x_row sg 3 x4.toInt) (l := x_row sg 4 x4.toInt) (by omega) (by omega), z_34]
        have z_46 := x_bw_q (by omega) (by omega) (by omega) z_45
        have z_47 := x_ct_le (n := (l32 &&& ((((1 : Int64) <<< (v43.toInt64 &&& 63)) - (1 : Int64)) <<< (v35.toInt64 &&& 63))).toInt.toNat) 62
        refine E_248 hX (dp1 hd (by decide)) hG (by omega) (by omega) (x := (l32 &&& ((((1 : Int64) <<< (v43.toInt64 &&& 63)) - (1 : Int64)) <<< (v35.toInt64 &&& 63)))) (fun r48 M52 hG50 F49 p_51 => ?_)
        have F53 := FR.c F0 F49 tg_137
        have z_54 := p_51.trans (show _ = x_nf sg (x_kn sg NN (n.toInt).toNat) (x4.toInt) (x8.toInt).toNat by rw [z_45]; rfl)
        refine to_i (pc := 133) rw_132_133 rfl (s_s (pc := 135) rw_132_135 (dp0 hd (by decide)) (ls0 := [.int r48, .int x5, .null, .null, .null]) rfl (Nat.le_of_ble_eq_true rfl) (Nat.le_of_ble_eq_true rfl) rfl (to_rcs rfl rfl) rfl (E_145 hX (dp1 hd (by decide)) hG50 (by omega) (by omega) (by omega) (by omega) (a := r48) (c := x5) (fun r55 M59 hG57 F56 p_58 => ?_)))
        have F60 := FR.c F53 F56 tg_137
        refine to_2l (pc := 138) rw_132_138 (v := (y6 + r55)) rfl (to_ls (pc := 139) rw_132_139 (ls2 := [.ref 0, u1, .int w, u3, .int x4, .int x5, .long (y6 + r55), .null, .int x8]) rfl rfl (s_inc (pc := 141) rw_132_141 (ls2 := fun v => [.ref 0, u1, .int w, u3, .int x4, .int x5, .long (y6 + r55), .null, .int v]) rfl rfl (fun _ => rfl) (A := x8.toInt) (B := 1) rfl rfl (by omega) (fun v61 e62 => to_go (pc := 144) rw_132_144 ?_)))
        have c_63 : M59.2.1 0 12 = (N.2.1 0 12) := (F_n F56 (show ¬ (0 < 0) by decide) (F_n F49 (show ¬ (0 < 0) by decide) rfl))
        have t_64 : (M59.2.1 0 12).toInt = (N.2.1 0 12).toInt := congrArg Int32.toInt c_63
        have c_65 : M59.2.1 6 0 = (N.2.1 6 0) := (F_n F56 (show ¬ (6 < 0) by decide) (F_n F49 (show ¬ (6 < 0) by decide) rfl))
        have t_66 : (M59.2.1 6 0).toInt = (N.2.1 6 0).toInt := congrArg Int32.toInt c_65
        have j_67 := (PQ_f F56 (PQ_f F49 g19))
        have j_68 := (PLs_f (fun a i z => F_n F56 (show ¬ (a < 0) by omega) rfl) (PLs_f (fun a i z => F_n F49 (show ¬ (a < 0) by omega) rfl) g20))
        have kn_69 : KST M59 12 13 14 15 ca sg (x_kn sg NN (n.toInt).toNat) := KST_f (fun i => (F_nl F56 (show ¬ (12 < 0) by decide) (F_nl F49 (show ¬ (12 < 0) by decide) rfl))) (fun i => (F_n F56 (show ¬ (13 < 0) by decide) (F_n F49 (show ¬ (13 < 0) by decide) rfl))) (fun i => (F_n F56 (show ¬ (14 < 0) by decide) (F_n F49 (show ¬ (14 < 0) by decide) rfl))) (fun i => (F_nl F56 (show ¬ (15 < 0) by decide) (F_nl F49 (show ¬ (15 < 0) by decide) rfl))) g21
        exact ih M59 (u1) (u3) x4 x5 (y6 + r55) v61 hG57 F60 (by omega) (by omega) (by omega) (by omega) (by omega) (by omega) (by omega) (by omega) (by omega) (by omega) (by omega) (by omega) (by omega) (by omega) (by omega) (by omega) (by omega) (by omega) j_67 j_68 kn_69 (x_lk_s (c := x8.toInt) (by omega) (by omega) (by omega) g22 (x_lk_y (by omega) z_54 p_58 rfl)) (by omega)
      · refine to_c (pc := 13) rw_13_13 (x := (1 : Int32)) rfl rfl (to_go (pc := 14) rw_13_14 (s_r1 (pc := 18) rw_13_18 (A := 1) rfl (by decide) (b_ine_t (pc := 105) rw_132_105 (A := 1) rfl (by decide) (s_inc (pc := 141) rw_132_141 (ls2 := fun v => [.ref 0, u1, .int w, u3, .int x4, .int x5, .long y6, .null, .int v]) rfl rfl (fun _ => rfl) (A := x8.toInt) (B := 1) rfl rfl (by omega) (fun v70 e71 => to_go (pc := 144) rw_132_144 ?_)))))
        exact ih N (u1) (u3) x4 x5 y6 v70 hG F0 (by omega) (by omega) (by omega) (by omega) (by omega) (by omega) (by omega) (by omega) (by omega) (by omega) (by omega) (by omega) (by omega) (by omega) (by omega) (by omega) (by omega) (by omega) g19 g20 g21 (x_lk_s (c := x8.toInt) (by omega) (by omega) (by omega) g22 (x_lk_n (by omega))) (by omega)
set_option maxRecDepth 4000 in
set_option maxHeartbeats 0 in
theorem E_132 {X : mm_X} {d : Nat} {M : mm_M} {Q : Option Value → mm_M → Prop} {n : Int32} {w : Int32} {k : Int32} {p : Nat} {pz : Nat} {q : Nat} {qz : Nat} {sg : x_S} {NN : x_N} {nz : Int} {ca : Int} (hX : g_X X) (hd : 6 ≤ d) (hG : g_G M) (hp : p = 49 ∨ p = 58) (hpz : pz = 49 ∨ pz = 58) (hq : q = 67 ∨ q = 72) (hqz : qz = 67 ∨ qz = 72) (q1 : g_PQ M p pz q qz) (q2 : PLs M p sg) (q3 : CW M p sg) (q4 : g_W2 X) (q5 : NTc M NN nz) (q6 : x_vn sg ca NN nz) (q7 : (M.2.1 6 0).toInt = nz) (q8 : (M.2.1 0 12).toInt = ca) (q9 : ca ≤ 30) (h : ∀ (r : Int64) (M1 : mm_M), g_G M1 → FR md_k M M1 → (r = x_likely sg NN nz ca n.toInt w.toInt k.toInt) → Q (some (.long r)) M1) : mm_T X d 132 0 [.ref 0, .int n, .int w, .int k, .null, .null, .null, .null, .null] [] M Q := by
  have F0 : FR md_k M M := FR.rf
  have b_72 := g_b hG (a := 6) (i := 0) (lo := 0) (hi := 150) rfl rfl
  have b_73 := g_b hG (a := 0) (i := 12) (lo := 0) (hi := 30) rfl rfl
  have z_74 := q2.2.1
  have z_75 := q2.2.2.1
  have z_76 := q2.2.2.2.1
  have z_77 := q2.1
  have z_78 := z_77.1
  have z_79 := z_77.2.1
  have z_80 := z_77.2.2.1
  have z_81 := z_77.2.2.2.1
  have z_82 := z_77.2.2.2.2.1
  have z_83 := z_77.2.2.2.2.2.1
  have b_84 := g_b hG (a := p) (i := 2) (lo := 0) (hi := 8) (by rcases hp with rfl | rfl <;> rfl) (by rcases hp with rfl | rfl <;> rfl)
  have b_85 := g_b hG (a := p) (i := 3) (lo := 0) (hi := 12) (by rcases hp with rfl | rfl <;> rfl) (by rcases hp with rfl | rfl <;> rfl)
  refine to_an (pc := 0) rw_132_0 rfl (to_in (pc := 1) rw_132_1 rfl (s_v (pc := 2) rw_132_2 (dp0 hd (by decide)) (ls0 := [.ref 0, .int n]) rfl (Nat.le_of_ble_eq_true rfl) (Nat.le_of_ble_eq_true rfl) rfl (to_rc rfl rfl rfl (g_o hG rfl)) rfl (to_in (pc := 0) rw_139_0 rfl (b_ilt (pc := 1) rw_139_1 (A := n.toInt) rfl (fun h86 => ?_) (fun h86 => ?_)))))
  · refine to_c (pc := 19) rw_139_19 (x := (0 : Int32)) rfl rfl (s_r1 (pc := 20) rw_139_20 (A := 0) rfl (by decide) (b_ieq_t (pc := 5) rw_132_5 (A := 0) rfl (by decide) (to_cl (pc := 28) rw_132_28 rfl (x := (-1 : Int64)) rfl (to_rl (pc := 31) rw_132_31 ?_))))
    exact h (-1 : Int64) M hG F0 (x_likely_n (by omega))
  · refine to_in (pc := 4) rw_139_4 rfl (to_an (pc := 5) rw_139_5 rfl (s_gR (pc := 6) rw_139_6 hG rfl (v := 6) rfl (tt_gI (pc := 9) rw_139_9 (g_o hG rfl) (v := (M.2.1 6 0)) rfl (b_cgt (pc := 12) rw_139_12 (A := n.toInt) (B := (M.2.1 6 0).toInt) rfl rfl (fun h87 => ?_) (fun h87 => ?_)))))
    · refine to_c (pc := 19) rw_139_19 (x := (0 : Int32)) rfl rfl (s_r1 (pc := 20) rw_139_20 (A := 0) rfl (by decide) (b_ieq_t (pc := 5) rw_132_5 (A := 0) rfl (by decide) (to_cl (pc := 28) rw_132_28 rfl (x := (-1 : Int64)) rfl (to_rl (pc := 31) rw_132_31 ?_))))
      exact h (-1 : Int64) M hG F0 (x_likely_n (by omega))
    · refine to_c (pc := 15) rw_139_15 (x := (1 : Int32)) rfl rfl (to_go (pc := 16) rw_139_16 (s_r1 (pc := 20) rw_139_20 (A := 1) rfl (by decide) (b_ieq_f (pc := 5) rw_132_5 (A := 1) rfl (by decide) (to_an (pc := 8) rw_132_8 rfl (tt_gR (pc := 9) rw_132_9 (g_o hG rfl) q1.1 (to_in (pc := 12) rw_132_12 rfl (s_v (pc := 13) rw_132_13 (dp0 hd (by decide)) (ls0 := [.ref p, .int w]) rfl (Nat.le_of_ble_eq_true rfl) (Nat.le_of_ble_eq_true rfl) rfl (to_rc rfl rfl rfl (g_o hG (by rcases hp with rfl | rfl <;> rfl))) rfl (to_in (pc := 0) rw_44_0 rfl (b_ilt (pc := 1) rw_44_1 (A := w.toInt) rfl (fun h88 => ?_) (fun h88 => ?_))))))))))
      · refine to_c (pc := 16) rw_44_16 (x := (0 : Int32)) rfl rfl (s_r1 (pc := 17) rw_44_17 (A := 0) rfl (by decide) (b_ieq_t (pc := 16) rw_132_16 (A := 0) rfl (by decide) (to_cl (pc := 28) rw_132_28 rfl (x := (-1 : Int64)) rfl (to_rl (pc := 31) rw_132_31 ?_))))
        exact h (-1 : Int64) M hG F0 (x_likely_n (by omega))
      · refine to_in (pc := 4) rw_44_4 rfl (to_an (pc := 5) rw_44_5 rfl (tt_gI (pc := 6) rw_44_6 (g_o hG (by rcases hp with rfl | rfl <;> rfl)) (v := (M.2.1 p 3)) rfl (b_cge (pc := 9) rw_44_9 (A := w.toInt) (B := (M.2.1 p 3).toInt) rfl rfl (fun h89 => ?_) (fun h89 => ?_))))
        · refine to_c (pc := 16) rw_44_16 (x := (0 : Int32)) rfl rfl (s_r1 (pc := 17) rw_44_17 (A := 0) rfl (by decide) (b_ieq_t (pc := 16) rw_132_16 (A := 0) rfl (by decide) (to_cl (pc := 28) rw_132_28 rfl (x := (-1 : Int64)) rfl (to_rl (pc := 31) rw_132_31 ?_))))
          exact h (-1 : Int64) M hG F0 (x_likely_n (by omega))
        · refine to_c (pc := 12) rw_44_12 (x := (1 : Int32)) rfl rfl (to_go (pc := 13) rw_44_13 (s_r1 (pc := 17) rw_44_17 (A := 1) rfl (by decide) (b_ieq_f (pc := 16) rw_132_16 (A := 1) rfl (by decide) (to_in (pc := 19) rw_132_19 rfl (b_ilt (pc := 20) rw_132_20 (A := k.toInt) rfl (fun h90 => ?_) (fun h90 => ?_))))))
          · refine to_cl (pc := 28) rw_132_28 rfl (x := (-1 : Int64)) rfl (to_rl (pc := 31) rw_132_31 ?_)
            exact h (-1 : Int64) M hG F0 (x_likely_n (by omega))
          · refine to_in (pc := 23) rw_132_23 rfl (to_c (pc := 24) rw_132_24 (x := (1 : Int32)) rfl rfl (b_cle (pc := 25) rw_132_25 (A := k.toInt) (B := 1) rfl rfl (fun h91 => ?_) (fun h91 => ?_)))
            · refine to_an (pc := 32) rw_132_32 rfl (tt_gR (pc := 33) rw_132_33 (g_o hG rfl) q1.1 (s_gR (pc := 36) rw_132_36 hG (by rcases hp with rfl | rfl <;> rfl) (v := (p + 7)) (by rcases hp with rfl | rfl <;> rfl) (to_in (pc := 39) rw_132_39 rfl (s_ial (pc := 40) rw_132_40 hG (by rcases hp with rfl | rfl <;> rfl) (n := 12) (by rcases hp with rfl | rfl <;> rfl) (by rcases hp with rfl | rfl <;> rfl) (A := w.toInt) rfl (by omega) (by omega) (lo := 0) (hi := 7) (by rcases hp with rfl | rfl <;> rfl) (by rcases hp with rfl | rfl <;> rfl) (fun v92 w_93 _ _ => ?_)))))
              have z_94 := PLs_v q2 7 (by decide) (by decide) (k := w.toInt) (by omega) (by omega) w_93
              have z_95 := q2.1.2.2.2.2.2.2.1 w.toInt (by omega) (by omega)
              have z_96 := q2.1.2.2.2.2.2.2.2 (x_row sg 7 w.toInt) (by omega) (by omega)
              have z_97 := x_row_v (s := sg) (r := 3) (x := v92.toInt) (y := x_row sg 7 w.toInt) (by omega)
              have z_98 := x_row_v (s := sg) (r := 4) (x := v92.toInt) (y := x_row sg 7 w.toInt) (by omega)
              have z_99 := x_row_v (s := sg) (r := 5) (x := v92.toInt) (y := x_row sg 7 w.toInt) (by omega)
              refine to_is (pc := 41) rw_132_41 (ls2 := [.ref 0, .int n, .int w, .int k, .int v92, .null, .null, .null, .null]) rfl rfl (to_an (pc := 43) rw_132_43 rfl (tt_gR (pc := 44) rw_132_44 (g_o hG rfl) q1.1 (s_gR (pc := 47) rw_132_47 hG (by rcases hp with rfl | rfl <;> rfl) (v := (p + 5)) (by rcases hp with rfl | rfl <;> rfl) (to_i (pc := 50) rw_132_50 rfl (s_ial (pc := 52) rw_132_52 hG (by rcases hp with rfl | rfl <;> rfl) (n := 8) (by rcases hp with rfl | rfl <;> rfl) (by rcases hp with rfl | rfl <;> rfl) (A := v92.toInt) rfl (by omega) (by omega) (lo := 0) (hi := 24) (by rcases hp with rfl | rfl <;> rfl) (by rcases hp with rfl | rfl <;> rfl) (fun v100 w_101 _ _ => ?_))))))
              have z_102 := PLs_r q2 5 (by decide) (by decide) (k := v92.toInt) (by omega) (by omega) w_101
              refine to_is (pc := 53) rw_132_53 (ls2 := [.ref 0, .int n, .int w, .int k, .int v92, .int v100, .null, .null, .null]) rfl rfl (to_in (pc := 55) rw_132_55 rfl (to_c (pc := 56) rw_132_56 (x := (1 : Int32)) rfl rfl (b_cne (pc := 57) rw_132_57 (A := k.toInt) (B := 1) rfl rfl (fun h103 => ?_) (fun h103 => ?_))))
              · refine to_an (pc := 75) rw_132_75 rfl (to_in (pc := 76) rw_132_76 rfl (s_v (pc := 77) rw_132_77 (dp0 hd (by decide)) (ls0 := [.ref 0, .int n]) rfl (Nat.le_of_ble_eq_true rfl) (Nat.le_of_ble_eq_true rfl) rfl (to_rc rfl rfl rfl (g_o hG rfl)) rfl (to_an (pc := 0) rw_141_0 rfl (s_gR (pc := 1) rw_141_1 hG rfl (v := 11) rfl (to_an (pc := 4) rw_141_4 rfl (tt_gR (pc := 5) rw_141_5 (g_o hG rfl) q1.1 (to_an (pc := 8) rw_141_8 rfl (s_gR (pc := 9) rw_141_9 hG rfl (v := 6) rfl (to_in (pc := 12) rw_141_12 rfl (s_v (pc := 13) rw_141_13 (dp1 hd (by decide)) (ls0 := [.ref 11, .ref p, .ref 6, .int n, .null]) rfl (Nat.le_of_ble_eq_true rfl) (Nat.le_of_ble_eq_true rfl) rfl (to_rc rfl rfl rfl (g_o hG rfl)) rfl (E_8 hX (dp2 hd (by decide)) hG hp (by omega) (by omega) (by omega) q3 q2 q4 q5 q6 (by omega) (p := p) (n := n) (sg := sg) (NN := NN) (nz := nz) (ca := ca) (fun M107 hG105 F104 p_106 => ?_))))))))))))
                have F108 := FR.c F0 F104 tg_133
                refine to_rv (pc := 16) rw_141_16 (to_cl (pc := 80) rw_132_80 rfl (x := (0 : Int64)) rfl (to_ls (pc := 81) rw_132_81 (ls2 := [.ref 0, .int n, .int w, .int k, .int v92, .int v100, .long (0 : Int64), .null, .null]) rfl rfl (to_c (pc := 83) rw_132_83 (x := (0 : Int32)) rfl rfl (to_is (pc := 84) rw_132_84 (ls2 := [.ref 0, .int n, .int w, .int k, .int v92, .int v100, .long (0 : Int64), .null, .int (0 : Int32)]) rfl rfl ?_))))
                have k_109 : (0 : Int32).toInt = 0 := rfl
                have c_110 : M107.2.1 0 12 = (M.2.1 0 12) := (F_n F104 (show ¬ (11 ≤ 0 ∧ 0 ≤ 16) by decide) rfl)
                have t_111 : (M107.2.1 0 12).toInt = (M.2.1 0 12).toInt := congrArg Int32.toInt c_110
                have c_112 : M107.2.1 6 0 = (M.2.1 6 0) := (F_n F104 (show ¬ (11 ≤ 6 ∧ 6 ≤ 16) by decide) rfl)
                have t_113 : (M107.2.1 6 0).toInt = (M.2.1 6 0).toInt := congrArg Int32.toInt c_112
                have j_114 := (PQ_f F104 q1)
                have j_115 := (PLs_f (fun a i z => F_n F104 (show ¬ (11 ≤ a ∧ a ≤ 16) by omega) rfl) q2)
                exact (U_132_0 (n := n) (w := w) (k := k) (p := p) (pz := pz) (q := q) (qz := qz) (sg := sg) (NN := NN) (nz := nz) (ca := ca) hX hd hp hpz hq hqz q1 q2 q3 q4 q5 q6 q7 q8 q9 h ((30 - (0 : Int32).toInt).toNat + 1)) M107 (.int n) (.int k) v92 v100 (0 : Int64) (0 : Int32) hG105 F108 (by omega) (by omega) (by omega) (by omega) (by omega) (by omega) (by omega) (by omega) (by omega) (by omega) (by omega) (by omega) (by omega) (by omega) (by omega) (by omega) (by omega) (by omega) j_114 j_115 p_106 (x_lk_0 (by omega) rfl) (by omega)
              · refine to_an (pc := 60) rw_132_60 rfl (tt_gR (pc := 61) rw_132_61 (g_o hG rfl) q1.1 (to_i (pc := 64) rw_132_64 rfl (s_v (pc := 66) rw_132_66 (dp0 hd (by decide)) (ls0 := [.ref p, .int v92]) rfl (Nat.le_of_ble_eq_true rfl) (Nat.le_of_ble_eq_true rfl) rfl (to_rc rfl rfl rfl (g_o hG (by rcases hp with rfl | rfl <;> rfl))) rfl (to_an (pc := 0) rw_47_0 rfl (s_gR (pc := 1) rw_47_1 hG (by rcases hp with rfl | rfl <;> rfl) (v := (p + 4)) (by rcases hp with rfl | rfl <;> rfl) (to_in (pc := 4) rw_47_4 rfl (s_ial (pc := 5) rw_47_5 hG (by rcases hp with rfl | rfl <;> rfl) (n := 8) (by rcases hp with rfl | rfl <;> rfl) (by rcases hp with rfl | rfl <;> rfl) (A := v92.toInt) rfl (by omega) (by omega) (lo := 0) (hi := 63) (by rcases hp with rfl | rfl <;> rfl) (by rcases hp with rfl | rfl <;> rfl) (fun v116 w_117 _ _ => ?_))))))))
                have z_118 := PLs_r q2 4 (by decide) (by decide) (k := v92.toInt) (by omega) (by omega) w_117
                refine to_an (pc := 6) rw_47_6 rfl (s_gR (pc := 7) rw_47_7 hG (by rcases hp with rfl | rfl <;> rfl) (v := (p + 3)) (by rcases hp with rfl | rfl <;> rfl) (to_in (pc := 10) rw_47_10 rfl (s_ial (pc := 11) rw_47_11 hG (by rcases hp with rfl | rfl <;> rfl) (n := 8) (by rcases hp with rfl | rfl <;> rfl) (by rcases hp with rfl | rfl <;> rfl) (A := v92.toInt) rfl (by omega) (by omega) (lo := 0) (hi := 59) (by rcases hp with rfl | rfl <;> rfl) (by rcases hp with rfl | rfl <;> rfl) (fun v119 w_120 _ _ => ?_))))
                have z_121 := PLs_r q2 3 (by decide) (by decide) (k := v92.toInt) (by omega) (by omega) w_120
                refine s_sub (pc := 12) rw_47_12 (A := v116.toInt) (B := v119.toInt) rfl rfl (by omega) (fun v122 e123 => to_c (pc := 13) rw_47_13 (x := (1 : Int32)) rfl rfl (s_add (pc := 14) rw_47_14 (A := v122.toInt) (B := 1) rfl rfl (by omega) (fun v124 e125 => to_r0 (pc := 15) rw_47_15 (to_i (pc := 69) rw_132_69 rfl (s_s (pc := 71) rw_132_71 (dp0 hd (by decide)) (ls0 := [.int v124, .int v100, .null, .null, .null]) rfl (Nat.le_of_ble_eq_true rfl) (Nat.le_of_ble_eq_true rfl) rfl (to_rcs rfl rfl) rfl (E_145 hX (dp1 hd (by decide)) hG (by omega) (by omega) (by omega) (by omega) (a := v124) (c := v100) (fun r126 M130 hG128 F127 p_129 => ?_)))))))
                have F131 := FR.c F0 F127 tg_137
                refine to_rl (pc := 74) rw_132_74 ?_
                exact h r126 M130 hG128 F131 (x_likely_1 (by omega) (by omega) p_129 (by omega) (by omega))
            · refine to_cl (pc := 28) rw_132_28 rfl (x := (-1 : Int64)) rfl (to_rl (pc := 31) rw_132_31 ?_)
              exact h (-1 : Int64) M hG F0 (x_likely_n (by omega))
set_option maxRecDepth 4000 in
set_option maxHeartbeats 0 in
theorem U_233_0 {X : mm_X} {d : Nat} {M : mm_M} {Q : Option Value → mm_M → Prop} {n : Int32} {w : Int32} {k : Int32} {sg : x_S} {NN : x_N} {nz : Int} {ca : Int} (hX : g_X X) (hd : 3 ≤ d) (q1 : x_vn sg ca NN nz) (q2 : ca ≤ 30) (q3 : (M.2.1 77 29).toInt = nz) (q4 : (M.2.1 77 28).toInt = ca) (q5 : CWk M sg) (q6 : FA M) (q7 : PLk M sg) (q8 : W8 M) (q9 : NTr M NN nz) (h : ∀ (r : Int64) (M1 : mm_M), g_G M1 → FR md_k2 M M1 → (r = x_likely sg NN nz ca n.toInt w.toInt k.toInt) → Q (some (.long r)) M1) : ∀ nn9 : Nat, (∀ (N : mm_M) (u1 : Value) (u3 : Value) (x4 : Int32) (y5 : Int64) (x7 : Int32), g_G N → FR md_k2 M N → (0 ≤ x7.toInt) → (x7.toInt ≤ 30) → (x7.toInt ≤ ca) → (0 ≤ x4.toInt) → (x4.toInt ≤ 7) → (x4.toInt = x_row sg 7 w.toInt) → (0 ≤ n.toInt) → (n.toInt ≤ nz) → (0 ≤ w.toInt) → (w.toInt ≤ 11) → (w.toInt < sg.2.2.1) → (0 ≤ k.toInt) → (k.toInt = 0) → ((N.2.1 77 28).toInt = ca) → ((N.2.1 77 29).toInt = nz) → (PLk N sg) → (KST N 96 98 97 95 ca sg (x_kn sg NN (n.toInt).toNat)) → (x_lk9 sg (x_kn sg NN (n.toInt).toNat) w.toInt x4.toInt (x_row sg 5 x4.toInt) (ca - x7.toInt).toNat (x7.toInt).toNat y5 = x_lk9 sg (x_kn sg NN (n.toInt).toNat) w.toInt x4.toInt (x_row sg 5 x4.toInt) ca.toNat 0 0) → 30 - x7.toInt < (nn9 : Int) → mm_T X d 232 75 [.ref 77, u1, .int w, u3, .int x4, .long y5, .null, .int x7] [] N Q) := by
  intro nn9
  induction nn9 with
  | zero =>
    intro N u1 u3 x4 y5 x7 hG F0 g1 g2 g3 g4 g5 g6 g7 g8 g9 g10 g11 g12 g13 g14 g15 g16 g17 g18 hm
    have b_1 := g_b hG (a := 77) (i := 28) (lo := 0) (hi := 30) rfl rfl
    have b_2 := g_b hG (a := 77) (i := 29) (lo := 0) (hi := 150) rfl rfl
    exfalso; omega
  | succ nn9 ih =>
    intro N u1 u3 x4 y5 x7 hG F0 g1 g2 g3 g4 g5 g6 g7 g8 g9 g10 g11 g12 g13 g14 g15 g16 g17 g18 hm
    have b_3 := g_b hG (a := 77) (i := 28) (lo := 0) (hi := 30) rfl rfl
    have b_4 := g_b hG (a := 77) (i := 29) (lo := 0) (hi := 150) rfl rfl
    have z_5 := g16.2.1
    have z_6 := g16.2.2.1
    have z_7 := g16.2.2.2.1
    have z_8 := g16.1
    have z_9 := z_8.1
    have z_10 := z_8.2.1
    have z_11 := z_8.2.2.1
    have z_12 := z_8.2.2.2.1
    have z_13 := z_8.2.2.2.2.1
    have z_14 := z_8.2.2.2.2.2.1
    have b_15 := g_b hG (a := 77) (i := 11) (lo := 10) (hi := 60) rfl rfl
    have b_16 := g_b hG (a := 77) (i := 12) (lo := 0) (hi := 8) rfl rfl
    have b_17 := g_b hG (a := 77) (i := 13) (lo := 0) (hi := 12) rfl rfl
    have z_18 := g16.1.2.2.2.2.2.2.1 w.toInt (by omega) (by omega)
    have z_19 := g16.1.2.2.2.2.2.2.2 (x_row sg 7 w.toInt) (by omega) (by omega)
    have z_20 := x_row_v (s := sg) (r := 3) (x := x4.toInt) (y := x_row sg 7 w.toInt) (by omega)
    have z_21 := x_row_v (s := sg) (r := 4) (x := x4.toInt) (y := x_row sg 7 w.toInt) (by omega)
    have z_22 := x_row_v (s := sg) (r := 5) (x := x4.toInt) (y := x_row sg 7 w.toInt) (by omega)
    refine to_i (pc := 75) rw_233_75 rfl (to_an (pc := 77) rw_233_77 rfl (tt_gI (pc := 78) rw_233_78 (g_o hG rfl) (v := (N.2.1 77 28)) rfl (b_cge (pc := 81) rw_233_81 (A := x7.toInt) (B := (N.2.1 77 28).toInt) rfl rfl (fun h23 => ?_) (fun h23 => ?_))))
    · refine to_l (pc := 130) rw_233_130 rfl rfl rfl (to_rl (pc := 132) rw_233_132 ?_)
      exact h y5 N hG F0 (x_likely_0 (by omega) (by omega) (x_lk_x (c := x7.toInt) (by omega) g18) (by omega) (by omega))
    · refine to_l (pc := 84) rw_233_84 rfl rfl rfl (to_an (pc := 86) rw_233_86 rfl (to_i (pc := 87) rw_233_87 rfl (to_in (pc := 89) rw_233_89 rfl (s_v (pc := 90) rw_233_90 (dp0 hd (by decide)) (ls0 := [.ref 77, .int x7, .int w]) rfl (Nat.le_of_ble_eq_true rfl) (Nat.le_of_ble_eq_true rfl) rfl (to_rc rfl rfl rfl (g_o hG rfl)) rfl (to_an (pc := 0) rw_231_0 rfl (s_gR (pc := 1) rw_231_1 hG rfl (v := 98) rfl (to_in (pc := 4) rw_231_4 rfl (s_ial (pc := 5) rw_231_5 hG rfl (n := 30) rfl rfl (A := x7.toInt) rfl (by omega) (by omega) (lo := -2147483648) (hi := 2147483647) rfl rfl (fun v24 w_25 _ _ => ?_)))))))))
      have z_26 : v24 = (x_kn sg NN (n.toInt).toNat).2.1 (x7.toInt).toNat := KST_lw (K := (x_kn sg NN (n.toInt).toNat)) g17 (by omega) (by omega) w_25
      refine to_in (pc := 6) rw_231_6 rfl (s_opE (pc := 7) rw_231_7 (w := v24 >>> w) rfl (fun v27 e28 => to_c (pc := 8) rw_231_8 (x := (1 : Int32)) rfl rfl (s_and (pc := 9) rw_231_9 (B := 1) rfl (by omega) (fun v29 e30 _ _ => ?_))))
      have z_31 : x_hw (x_kn sg NN (n.toInt).toNat) (x7.toInt).toNat w.toInt = v29.toInt := x_hw_e z_26 rfl e28 e30
      refine to_c (pc := 10) rw_231_10 (x := (1 : Int32)) rfl rfl (b_cne (pc := 11) rw_231_11 (A := v29.toInt) (B := 1) rfl rfl (fun h32 => ?_) (fun h32 => ?_))
      · refine to_c (pc := 18) rw_231_18 (x := (0 : Int32)) rfl rfl (s_r1 (pc := 19) rw_231_19 (A := 0) rfl (by decide) (b_ieq_t (pc := 93) rw_233_93 (A := 0) rfl (by decide) (to_an (pc := 100) rw_233_100 rfl (to_i (pc := 101) rw_233_101 rfl (to_i (pc := 103) rw_233_103 rfl (s_v (pc := 105) rw_233_105 (dp0 hd (by decide)) (ls0 := [.ref 77, .int x7, .int x4]) rfl (Nat.le_of_ble_eq_true rfl) (Nat.le_of_ble_eq_true rfl) rfl (to_rc rfl rfl rfl (g_o hG rfl)) rfl (E_232 hX (dp1 hd (by decide)) hG (by omega) (by omega) (by omega) (by omega) (by omega) g16 g17 (c := x7) (f := x4) (sg := sg) (ca := ca) (K := (x_kn sg NN (n.toInt).toNat)) (fun r33 M37 hG35 F34 p_36 => ?_))))))))
        have F38 := FR.c F0 F34 tg_138
        refine s_s (pc := 108) rw_233_108 (dp0 hd (by decide)) (ls0 := [.long r33, .null, .null, .null]) rfl (Nat.le_of_ble_eq_true rfl) (Nat.le_of_ble_eq_true rfl) rfl (to_rcs rfl rfl) rfl ?_
        have z_39 := x_bw_q (by omega) (by omega) (by omega) p_36
        have z_40 := x_ct_le (n := r33.toInt.toNat) 62
        refine E_151l hX (dp1 hd (by decide)) hG35 (by omega) (x := r33) (fun r41 M45 hG43 F42 p_44 => ?_)
        have F46 := FR.c F38 F42 tg_138
        have z_47 := p_44.trans (show _ = x_nf sg (x_kn sg NN (n.toInt).toNat) (x4.toInt) (x7.toInt).toNat by rw [p_36]; rfl)
        refine to_an (pc := 111) rw_233_111 rfl (s_gR (pc := 112) rw_233_112 hG43 rfl (v := 84) rfl (to_i (pc := 115) rw_233_115 rfl (s_ial (pc := 117) rw_233_117 hG43 rfl (n := 16) rfl rfl (A := x4.toInt) rfl (by omega) (by omega) (lo := 0) (hi := 24) rfl rfl (fun v48 w_49 _ _ => ?_))))
        have j_50 := (PLk_f (tg_101 F42) (PLk_f (tg_101 F34) g16))
        have z_51 := PLk_r j_50 5 84 rfl (by decide) (by decide) (k := x4.toInt) (by omega) (by omega) w_49
        refine s_s (pc := 118) rw_233_118 (dp0 hd (by decide)) (ls0 := [.int r41, .int v48, .null, .null, .null]) rfl (Nat.le_of_ble_eq_true rfl) (Nat.le_of_ble_eq_true rfl) rfl (to_rcs rfl rfl) rfl (E_230 hX (dp1 hd (by decide)) hG43 (by omega) (by omega) (by omega) (by omega) (n := r41) (k := v48) (fun r52 M56 hG54 F53 p_55 => ?_))
        have F57 := FR.c F46 F53 tg_138
        have z_58 := p_55.trans (x_ways_v (k2 := x_row sg 5 x4.toInt) (by omega))
        refine to_2l (pc := 121) rw_233_121 (v := (y5 + r52)) rfl (to_ls (pc := 122) rw_233_122 (ls2 := [.ref 77, u1, .int w, u3, .int x4, .long (y5 + r52), .null, .int x7]) rfl rfl (s_inc (pc := 124) rw_233_124 (ls2 := fun v => [.ref 77, u1, .int w, u3, .int x4, .long (y5 + r52), .null, .int v]) rfl rfl (fun _ => rfl) (A := x7.toInt) (B := 1) rfl rfl (by omega) (fun v59 e60 => to_go (pc := 127) rw_233_127 ?_)))
        have c_61 : M56.2.1 77 28 = (N.2.1 77 28) := (F_n F53 (show ¬ (77 < 0) by decide) (F_n F42 (show ¬ (77 < 0) by decide) (F_n F34 (show ¬ (77 < 0) by decide) rfl)))
        have t_62 : (M56.2.1 77 28).toInt = (N.2.1 77 28).toInt := congrArg Int32.toInt c_61
        have c_63 : M56.2.1 77 29 = (N.2.1 77 29) := (F_n F53 (show ¬ (77 < 0) by decide) (F_n F42 (show ¬ (77 < 0) by decide) (F_n F34 (show ¬ (77 < 0) by decide) rfl)))
        have t_64 : (M56.2.1 77 29).toInt = (N.2.1 77 29).toInt := congrArg Int32.toInt c_63
        have j_65 := (PLk_f (tg_101 F53) j_50)
        have kn_66 : KST M56 96 98 97 95 ca sg (x_kn sg NN (n.toInt).toNat) := KST_f (fun i => (F_nl F53 (show ¬ (96 < 0) by decide) (F_nl F42 (show ¬ (96 < 0) by decide) (F_nl F34 (show ¬ (96 < 0) by decide) rfl)))) (fun i => (F_n F53 (show ¬ (98 < 0) by decide) (F_n F42 (show ¬ (98 < 0) by decide) (F_n F34 (show ¬ (98 < 0) by decide) rfl)))) (fun i => (F_n F53 (show ¬ (97 < 0) by decide) (F_n F42 (show ¬ (97 < 0) by decide) (F_n F34 (show ¬ (97 < 0) by decide) rfl)))) (fun i => (F_nl F53 (show ¬ (95 < 0) by decide) (F_nl F42 (show ¬ (95 < 0) by decide) (F_nl F34 (show ¬ (95 < 0) by decide) rfl)))) g17
        exact ih M56 (u1) (u3) x4 (y5 + r52) v59 hG54 F57 (by omega) (by omega) (by omega) (by omega) (by omega) (by omega) (by omega) (by omega) (by omega) (by omega) (by omega) (by omega) (by omega) (by omega) (by omega) j_65 kn_66 (x_lk_s (c := x7.toInt) (by omega) (by omega) (by omega) g18 (x_lk_y (by omega) z_47 z_58 rfl)) (by omega)
      · refine to_c (pc := 14) rw_231_14 (x := (1 : Int32)) rfl rfl (to_go (pc := 15) rw_231_15 (s_r1 (pc := 19) rw_231_19 (A := 1) rfl (by decide) (b_ieq_f (pc := 93) rw_233_93 (A := 1) rfl (by decide) (to_cl (pc := 96) rw_233_96 rfl (x := (0 : Int64)) rfl (to_go (pc := 97) rw_233_97 (to_2l (pc := 121) rw_233_121 (v := (y5 + (0 : Int64))) rfl (to_ls (pc := 122) rw_233_122 (ls2 := [.ref 77, u1, .int w, u3, .int x4, .long (y5 + (0 : Int64)), .null, .int x7]) rfl rfl (s_inc (pc := 124) rw_233_124 (ls2 := fun v => [.ref 77, u1, .int w, u3, .int x4, .long (y5 + (0 : Int64)), .null, .int v]) rfl rfl (fun _ => rfl) (A := x7.toInt) (B := 1) rfl rfl (by omega) (fun v67 e68 => to_go (pc := 127) rw_233_127 ?_)))))))))
        exact ih N (u1) (u3) x4 (y5 + (0 : Int64)) v67 hG F0 (by omega) (by omega) (by omega) (by omega) (by omega) (by omega) (by omega) (by omega) (by omega) (by omega) (by omega) (by omega) (by omega) (by omega) (by omega) g16 g17 (x_lk_s (c := x7.toInt) (by omega) (by omega) (by omega) g18 (x_lk_z (by omega) rfl)) (by omega)
set_option maxRecDepth 4000 in
set_option maxHeartbeats 0 in
theorem E_233 {X : mm_X} {d : Nat} {M : mm_M} {Q : Option Value → mm_M → Prop} {n : Int32} {w : Int32} {k : Int32} {sg : x_S} {NN : x_N} {nz : Int} {ca : Int} (hX : g_X X) (hd : 3 ≤ d) (hG : g_G M) (q1 : x_vn sg ca NN nz) (q2 : ca ≤ 30) (q3 : (M.2.1 77 29).toInt = nz) (q4 : (M.2.1 77 28).toInt = ca) (q5 : CWk M sg) (q6 : FA M) (q7 : PLk M sg) (q8 : W8 M) (q9 : NTr M NN nz) (h : ∀ (r : Int64) (M1 : mm_M), g_G M1 → FR md_k2 M M1 → (r = x_likely sg NN nz ca n.toInt w.toInt k.toInt) → Q (some (.long r)) M1) : mm_T X d 232 0 [.ref 77, .int n, .int w, .int k, .null, .null, .null, .null] [] M Q := by
  have F0 : FR md_k2 M M := FR.rf
  have b_69 := g_b hG (a := 77) (i := 29) (lo := 0) (hi := 150) rfl rfl
  have b_70 := g_b hG (a := 77) (i := 28) (lo := 0) (hi := 30) rfl rfl
  have z_71 := q7.2.1
  have z_72 := q7.2.2.1
  have z_73 := q7.2.2.2.1
  have z_74 := q7.1
  have z_75 := z_74.1
  have z_76 := z_74.2.1
  have z_77 := z_74.2.2.1
  have z_78 := z_74.2.2.2.1
  have z_79 := z_74.2.2.2.2.1
  have z_80 := z_74.2.2.2.2.2.1
  have b_81 := g_b hG (a := 77) (i := 11) (lo := 10) (hi := 60) rfl rfl
  have b_82 := g_b hG (a := 77) (i := 12) (lo := 0) (hi := 8) rfl rfl
  have b_83 := g_b hG (a := 77) (i := 13) (lo := 0) (hi := 12) rfl rfl
  refine to_an (pc := 0) rw_233_0 rfl (to_c (pc := 1) rw_233_1 (x := (0 : Int32)) rfl rfl (s_pI (pc := 2) rw_233_2 hG rfl (fun M85 W84 => ?_)))
  have hG86 := g_wf hG W84 rfl rfl (by decide)
  have F87 := FR.w F0 W84 (show 77 = 77 ∧ 2 = 2 ∨ 94 ≤ 77 ∧ 77 ≤ 98 by decide)
  refine to_an (pc := 5) rw_233_5 rfl (to_in (pc := 6) rw_233_6 rfl (s_v (pc := 7) rw_233_7 (dp0 hd (by decide)) (ls0 := [.ref 77, .int n]) rfl (Nat.le_of_ble_eq_true rfl) (Nat.le_of_ble_eq_true rfl) rfl (to_rc rfl rfl rfl (g_o hG86 rfl)) rfl (to_in (pc := 0) rw_186_0 rfl (b_ilt (pc := 1) rw_186_1 (A := n.toInt) rfl (fun h88 => ?_) (fun h88 => ?_)))))
  · refine to_c (pc := 16) rw_186_16 (x := (0 : Int32)) rfl rfl (s_r1 (pc := 17) rw_186_17 (A := 0) rfl (by decide) (b_ieq_t (pc := 10) rw_233_10 (A := 0) rfl (by decide) (to_cl (pc := 30) rw_233_30 rfl (x := (-1 : Int64)) rfl (to_rl (pc := 33) rw_233_33 ?_))))
    exact h (-1 : Int64) M85 hG86 F87 (x_likely_n (by omega))
  · refine to_in (pc := 4) rw_186_4 rfl (to_an (pc := 5) rw_186_5 rfl ?_)
    have c_89 : M85.2.1 77 29 = (M.2.1 77 29) := (W_n W84 (by decide) rfl)
    refine tt_gI (pc := 6) rw_186_6 (g_o hG86 rfl) (v := (M.2.1 77 29)) c_89 (b_cgt (pc := 9) rw_186_9 (A := n.toInt) (B := (M.2.1 77 29).toInt) rfl rfl (fun h90 => ?_) (fun h90 => ?_))
    · refine to_c (pc := 16) rw_186_16 (x := (0 : Int32)) rfl rfl (s_r1 (pc := 17) rw_186_17 (A := 0) rfl (by decide) (b_ieq_t (pc := 10) rw_233_10 (A := 0) rfl (by decide) (to_cl (pc := 30) rw_233_30 rfl (x := (-1 : Int64)) rfl (to_rl (pc := 33) rw_233_33 ?_))))
      exact h (-1 : Int64) M85 hG86 F87 (x_likely_n (by omega))
    · refine to_c (pc := 12) rw_186_12 (x := (1 : Int32)) rfl rfl (to_go (pc := 13) rw_186_13 (s_r1 (pc := 17) rw_186_17 (A := 1) rfl (by decide) (b_ieq_f (pc := 10) rw_233_10 (A := 1) rfl (by decide) (to_an (pc := 13) rw_233_13 rfl (to_in (pc := 14) rw_233_14 rfl (s_v (pc := 15) rw_233_15 (dp0 hd (by decide)) (ls0 := [.ref 77, .int w]) rfl (Nat.le_of_ble_eq_true rfl) (Nat.le_of_ble_eq_true rfl) rfl (to_rc rfl rfl rfl (g_o hG86 rfl)) rfl (to_in (pc := 0) rw_180_0 rfl (b_ilt (pc := 1) rw_180_1 (A := w.toInt) rfl (fun h91 => ?_) (fun h91 => ?_)))))))))
      · refine to_c (pc := 16) rw_180_16 (x := (0 : Int32)) rfl rfl (s_r1 (pc := 17) rw_180_17 (A := 0) rfl (by decide) (b_ieq_t (pc := 18) rw_233_18 (A := 0) rfl (by decide) (to_cl (pc := 30) rw_233_30 rfl (x := (-1 : Int64)) rfl (to_rl (pc := 33) rw_233_33 ?_))))
        exact h (-1 : Int64) M85 hG86 F87 (x_likely_n (by omega))
      · refine to_in (pc := 4) rw_180_4 rfl (to_an (pc := 5) rw_180_5 rfl ?_)
        have c_92 : M85.2.1 77 13 = (M.2.1 77 13) := (W_n W84 (by decide) rfl)
        refine tt_gI (pc := 6) rw_180_6 (g_o hG86 rfl) (v := (M.2.1 77 13)) c_92 (b_cge (pc := 9) rw_180_9 (A := w.toInt) (B := (M.2.1 77 13).toInt) rfl rfl (fun h93 => ?_) (fun h93 => ?_))
        · refine to_c (pc := 16) rw_180_16 (x := (0 : Int32)) rfl rfl (s_r1 (pc := 17) rw_180_17 (A := 0) rfl (by decide) (b_ieq_t (pc := 18) rw_233_18 (A := 0) rfl (by decide) (to_cl (pc := 30) rw_233_30 rfl (x := (-1 : Int64)) rfl (to_rl (pc := 33) rw_233_33 ?_))))
          exact h (-1 : Int64) M85 hG86 F87 (x_likely_n (by omega))
        · refine to_c (pc := 12) rw_180_12 (x := (1 : Int32)) rfl rfl (to_go (pc := 13) rw_180_13 (s_r1 (pc := 17) rw_180_17 (A := 1) rfl (by decide) (b_ieq_f (pc := 18) rw_233_18 (A := 1) rfl (by decide) (to_in (pc := 21) rw_233_21 rfl (to_c (pc := 22) rw_233_22 (x := (0 : Int32)) rfl rfl (to_c (pc := 23) rw_233_23 (x := (1 : Int32)) rfl rfl (s_s (pc := 24) rw_233_24 (dp0 hd (by decide)) (ls0 := [.int k, .int (0 : Int32), .int (1 : Int32)]) rfl (Nat.le_of_ble_eq_true rfl) (Nat.le_of_ble_eq_true rfl) rfl (to_rcs rfl rfl) rfl (to_in (pc := 0) rw_149_0 rfl (to_in (pc := 1) rw_149_1 rfl (b_clt (pc := 2) rw_149_2 (A := k.toInt) (B := 0) rfl rfl (fun h94 => ?_) (fun h94 => ?_)))))))))))
          · refine to_c (pc := 14) rw_149_14 (x := (0 : Int32)) rfl rfl (s_r1 (pc := 15) rw_149_15 (A := 0) rfl (by decide) (b_ine_f (pc := 27) rw_233_27 (A := 0) rfl (by decide) (to_cl (pc := 30) rw_233_30 rfl (x := (-1 : Int64)) rfl (to_rl (pc := 33) rw_233_33 ?_))))
            exact h (-1 : Int64) M85 hG86 F87 (x_likely_n (by omega))
          · refine to_in (pc := 5) rw_149_5 rfl (to_in (pc := 6) rw_149_6 rfl (b_cgt (pc := 7) rw_149_7 (A := k.toInt) (B := 1) rfl rfl (fun h95 => ?_) (fun h95 => ?_)))
            · refine to_c (pc := 14) rw_149_14 (x := (0 : Int32)) rfl rfl (s_r1 (pc := 15) rw_149_15 (A := 0) rfl (by decide) (b_ine_f (pc := 27) rw_233_27 (A := 0) rfl (by decide) (to_cl (pc := 30) rw_233_30 rfl (x := (-1 : Int64)) rfl (to_rl (pc := 33) rw_233_33 ?_))))
              exact h (-1 : Int64) M85 hG86 F87 (x_likely_n (by omega))
            · refine to_c (pc := 10) rw_149_10 (x := (1 : Int32)) rfl rfl (to_go (pc := 11) rw_149_11 (s_r1 (pc := 15) rw_149_15 (A := 1) rfl (by decide) (b_ine_t (pc := 27) rw_233_27 (A := 1) rfl (by decide) (to_an (pc := 34) rw_233_34 rfl (to_in (pc := 35) rw_233_35 rfl (s_v (pc := 36) rw_233_36 (dp0 hd (by decide)) (ls0 := [.ref 77, .int n, .null, .null]) rfl (Nat.le_of_ble_eq_true rfl) (Nat.le_of_ble_eq_true rfl) rfl (to_rc rfl rfl rfl (g_o hG86 rfl)) rfl ?_))))))
              have c_96 : M85.2.1 77 28 = (M.2.1 77 28) := (W_n W84 (by decide) rfl)
              have t_97 : (M85.2.1 77 28).toInt = (M.2.1 77 28).toInt := congrArg Int32.toInt c_96
              have j_98 := (CWk_f (fun k hk9 => W_j W84 rfl) q5)
              have j_99 := (FA_f (fun a i z => W_n W84 (tg_94 a i z) rfl) q6)
              have j_100 := (PLk_f (fun a i z => W_n W84 (tg_91 a i z) rfl) q7)
              have j_101 := (W8_f (fun a i z => W_n W84 (tg_95 a i z) rfl) q8)
              have j_102 := (NTr_f (fun a i z => W_n W84 (tg_135 a i z) rfl) q9)
              refine E_189 hX (dp1 hd (by decide)) hG86 (by omega) (by omega) (by omega) q1 (by omega) (by omega) j_98 j_99 j_100 j_101 j_102 (n := n) (sg := sg) (NN := NN) (nz := nz) (ca := ca) (fun M106 hG104 F103 p_105 => ?_)
              have F107 := FR.c F87 F103 tg_134
              refine to_an (pc := 39) rw_233_39 rfl (s_gR (pc := 40) rw_233_40 hG104 rfl (v := 86) rfl (to_in (pc := 43) rw_233_43 rfl (s_ial (pc := 44) rw_233_44 hG104 rfl (n := 24) rfl rfl (A := w.toInt) rfl (by omega) (by omega) (lo := 0) (hi := 7) rfl rfl (fun v108 w_109 _ _ => ?_))))
              have j_110 := (PLk_f (tg_136 F103) j_100)
              have z_111 := PLk_w j_110 7 86 rfl (by decide) (by decide) (k := w.toInt) (by omega) (by omega) w_109
              have z_112 := j_110.1.2.2.2.2.2.2.1 w.toInt (by omega) (by omega)
              have z_113 := j_110.1.2.2.2.2.2.2.2 (x_row sg 7 w.toInt) (by omega) (by omega)
              have z_114 := x_row_v (s := sg) (r := 3) (x := v108.toInt) (y := x_row sg 7 w.toInt) (by omega)
              have z_115 := x_row_v (s := sg) (r := 4) (x := v108.toInt) (y := x_row sg 7 w.toInt) (by omega)
              have z_116 := x_row_v (s := sg) (r := 5) (x := v108.toInt) (y := x_row sg 7 w.toInt) (by omega)
              refine to_is (pc := 45) rw_233_45 (ls2 := [.ref 77, .int n, .int w, .int k, .int v108, .null, .null, .null]) rfl rfl (to_in (pc := 47) rw_233_47 rfl (to_c (pc := 48) rw_233_48 (x := (1 : Int32)) rfl rfl (b_cne (pc := 49) rw_233_49 (A := k.toInt) (B := 1) rfl rfl (fun h117 => ?_) (fun h117 => ?_))))
              · refine to_cl (pc := 69) rw_233_69 rfl (x := (0 : Int64)) rfl (to_ls (pc := 70) rw_233_70 (ls2 := [.ref 77, .int n, .int w, .int k, .int v108, .long (0 : Int64), .null, .null]) rfl rfl (to_c (pc := 72) rw_233_72 (x := (0 : Int32)) rfl rfl (to_is (pc := 73) rw_233_73 (ls2 := [.ref 77, .int n, .int w, .int k, .int v108, .long (0 : Int64), .null, .int (0 : Int32)]) rfl rfl ?_)))
                have k_118 : (0 : Int32).toInt = 0 := rfl
                have c_119 : M106.2.1 77 28 = (M.2.1 77 28) := (F_n F103 (show ¬ (94 ≤ 77 ∧ 77 ≤ 98) by decide) c_96)
                have t_120 : (M106.2.1 77 28).toInt = (M.2.1 77 28).toInt := congrArg Int32.toInt c_119
                have c_121 : M106.2.1 77 29 = (M.2.1 77 29) := (F_n F103 (show ¬ (94 ≤ 77 ∧ 77 ≤ 98) by decide) c_89)
                have t_122 : (M106.2.1 77 29).toInt = (M.2.1 77 29).toInt := congrArg Int32.toInt c_121
                exact (U_233_0 (n := n) (w := w) (k := k) (sg := sg) (NN := NN) (nz := nz) (ca := ca) hX hd q1 q2 q3 q4 q5 q6 q7 q8 q9 h ((30 - (0 : Int32).toInt).toNat + 1)) M106 (.int n) (.int k) v108 (0 : Int64) (0 : Int32) hG104 F107 (by omega) (by omega) (by omega) (by omega) (by omega) (by omega) (by omega) (by omega) (by omega) (by omega) (by omega) (by omega) (by omega) (by omega) (by omega) j_110 p_105 (x_lk_0 (by omega) rfl) (by omega)
              · refine to_an (pc := 52) rw_233_52 rfl (to_i (pc := 53) rw_233_53 rfl (s_v (pc := 55) rw_233_55 (dp0 hd (by decide)) (ls0 := [.ref 77, .int v108]) rfl (Nat.le_of_ble_eq_true rfl) (Nat.le_of_ble_eq_true rfl) rfl (to_rc rfl rfl rfl (g_o hG104 rfl)) rfl (to_an (pc := 0) rw_197_0 rfl (s_gR (pc := 1) rw_197_1 hG104 rfl (v := 83) rfl (to_in (pc := 4) rw_197_4 rfl (s_ial (pc := 5) rw_197_5 hG104 rfl (n := 16) rfl rfl (A := v108.toInt) rfl (by omega) (by omega) (lo := 0) (hi := 63) rfl rfl (fun v123 w_124 _ _ => ?_)))))))
                have z_125 := PLk_r j_110 4 83 rfl (by decide) (by decide) (k := v108.toInt) (by omega) (by omega) w_124
                refine to_an (pc := 6) rw_197_6 rfl (s_gR (pc := 7) rw_197_7 hG104 rfl (v := 82) rfl (to_in (pc := 10) rw_197_10 rfl (s_ial (pc := 11) rw_197_11 hG104 rfl (n := 16) rfl rfl (A := v108.toInt) rfl (by omega) (by omega) (lo := 0) (hi := 59) rfl rfl (fun v126 w_127 _ _ => ?_))))
                have z_128 := PLk_r j_110 3 82 rfl (by decide) (by decide) (k := v108.toInt) (by omega) (by omega) w_127
                refine s_sub (pc := 12) rw_197_12 (A := v123.toInt) (B := v126.toInt) rfl rfl (by omega) (fun v129 e130 => to_c (pc := 13) rw_197_13 (x := (1 : Int32)) rfl rfl (s_add (pc := 14) rw_197_14 (A := v129.toInt) (B := 1) rfl rfl (by omega) (fun v131 e132 => to_r0 (pc := 15) rw_197_15 (to_an (pc := 58) rw_233_58 rfl (s_gR (pc := 59) rw_233_59 hG104 rfl (v := 84) rfl (to_i (pc := 62) rw_233_62 rfl (s_ial (pc := 64) rw_233_64 hG104 rfl (n := 16) rfl rfl (A := v108.toInt) rfl (by omega) (by omega) (lo := 0) (hi := 24) rfl rfl (fun v133 w_134 _ _ => ?_))))))))
                have z_135 := PLk_r j_110 5 84 rfl (by decide) (by decide) (k := v108.toInt) (by omega) (by omega) w_134
                refine s_s (pc := 65) rw_233_65 (dp0 hd (by decide)) (ls0 := [.int v131, .int v133, .null, .null, .null]) rfl (Nat.le_of_ble_eq_true rfl) (Nat.le_of_ble_eq_true rfl) rfl (to_rcs rfl rfl) rfl (E_230 hX (dp1 hd (by decide)) hG104 (by omega) (by omega) (by omega) (by omega) (n := v131) (k := v133) (fun r136 M140 hG138 F137 p_139 => ?_))
                have F141 := FR.c F107 F137 tg_138
                refine to_rl (pc := 68) rw_233_68 ?_
                exact h r136 M140 hG138 F141 (x_likely_1 (by omega) (by omega) p_139 (by omega) (by omega))
