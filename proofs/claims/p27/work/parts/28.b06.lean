noncomputable def RE_5 (k : Int) : Prop := ∀ (X : mm_X) (d : Nat) (M : mm_M) (Q : Option Value → mm_M → Prop) (l : Int32) (b : Int32) (c : Int32) (y : Int32) (s : Int32) (wi : Int32) (cu : Nat → Int32) (sh : Nat → Int) (kk : Nat) (ww : Int) (yy : Nat → Int) (vv : (Nat → Int) → Prop), g_X X → (1 + l.toInt ≤ (d : Int)) → g_G M → (0 ≤ l.toInt) → (l.toInt ≤ 4) → (0 ≤ b.toInt) → (b.toInt ≤ 24) → (b.toInt ≤ ww) → (ww ≤ 24) → (l.toInt ≤ (kk : Int)) → ((kk : Int) ≤ 4) → (0 ≤ y.toInt) → (y.toInt ≤ 1073741823) → (0 ≤ s.toInt) → (s.toInt ≤ 1000 - 100 * l.toInt) → (OR5 kk ww l.toInt b.toInt yy vv) → (SB5 kk ww l.toInt b.toInt yy) → (CU5 M cu sh ww) → (c = x_bo yy kk (kk - (l.toInt).toNat)) → (y = x_dd wi cu yy kk (kk - (l.toInt).toNat)) → (s.toInt = x_ss sh yy kk (kk - (l.toInt).toNat)) → (LSM M wi cu sh kk vv) → l.toInt < k → (∀ (M1 : mm_M), g_G M1 → FR md_b6 M M1 → (LSM M1 wi cu sh kk (fun x => vv x ∨ x_Cb (kk : Int) ww l.toInt b.toInt yy x)) → Q (none) M1) → mm_T X d 5 0 [.ref 36, .int l, .int b, .int c, .int y, .int s, .null] [] M Q
set_option maxRecDepth 4000 in
set_option maxHeartbeats 0 in
theorem U_5_0 {X : mm_X} {d : Nat} {M : mm_M} {Q : Option Value → mm_M → Prop} {l : Int32} {b : Int32} {c : Int32} {y : Int32} {s : Int32} {wi : Int32} {cu : Nat → Int32} {sh : Nat → Int} {kk : Nat} {ww : Int} {yy : Nat → Int} {vv : (Nat → Int) → Prop} (hX : g_X X) (hd : 1 + l.toInt ≤ (d : Int)) (q1 : 0 ≤ l.toInt) (q2 : l.toInt ≤ 4) (q3 : 0 ≤ b.toInt) (q4 : b.toInt ≤ 24) (q5 : b.toInt ≤ ww) (q6 : ww ≤ 24) (q7 : l.toInt ≤ (kk : Int)) (q8 : (kk : Int) ≤ 4) (q9 : 0 ≤ y.toInt) (q10 : y.toInt ≤ 1073741823) (q11 : 0 ≤ s.toInt) (q12 : s.toInt ≤ 1000 - 100 * l.toInt) (q13 : OR5 kk ww l.toInt b.toInt yy vv) (q14 : SB5 kk ww l.toInt b.toInt yy) (q15 : CU5 M cu sh ww) (q16 : c = x_bo yy kk (kk - (l.toInt).toNat)) (q17 : y = x_dd wi cu yy kk (kk - (l.toInt).toNat)) (q18 : s.toInt = x_ss sh yy kk (kk - (l.toInt).toNat)) (q19 : LSM M wi cu sh kk vv) (hr : RE_5 (l.toInt)) (h : ∀ (M1 : mm_M), g_G M1 → FR md_b6 M M1 → (LSM M1 wi cu sh kk (fun x => vv x ∨ x_Cb (kk : Int) ww l.toInt b.toInt yy x)) → Q (none) M1) : ∀ nn9 : Nat, (∀ (N : mm_M) (x6 : Int32), g_G N → FR md_b6 M N → (0 ≤ x6.toInt) → (x6.toInt ≤ 24) → (1 ≤ l.toInt) → (l.toInt - 1 ≤ x6.toInt) → (x6.toInt ≤ b.toInt ∨ x6.toInt = l.toInt - 1) → (l.toInt ≤ 4) → (0 ≤ b.toInt) → (b.toInt ≤ 24) → (b.toInt ≤ ww) → (ww ≤ 24) → (l.toInt ≤ (kk : Int)) → ((kk : Int) ≤ 4) → (0 ≤ y.toInt) → (y.toInt ≤ 1073741823) → (0 ≤ s.toInt) → (s.toInt ≤ 1000 - 100 * l.toInt) → (OR5 kk ww l.toInt b.toInt yy vv) → (SB5 kk ww l.toInt b.toInt yy) → (CU5 N cu sh ww) → (c = x_bo yy kk (kk - (l.toInt).toNat)) → (y = x_dd wi cu yy kk (kk - (l.toInt).toNat)) → (s.toInt = x_ss sh yy kk (kk - (l.toInt).toNat)) → (LSM N wi cu sh kk (fun x => vv x ∨ x_Cb (kk : Int) ww l.toInt x6.toInt yy x)) → 24 - x6.toInt < (nn9 : Int) → mm_T X d 5 22 [.ref 36, .int l, .int b, .int c, .int y, .int s, .int x6] [] N Q) := by
  intro nn9
  induction nn9 with
  | zero =>
    intro N x6 hG F0 g1 g2 g3 g4 g5 g6 g7 g8 g9 g10 g11 g12 g13 g14 g15 g16 g17 g18 g19 g20 g21 g22 g23 hm
    exfalso; omega
  | succ nn9 ih =>
    intro N x6 hG F0 g1 g2 g3 g4 g5 g6 g7 g8 g9 g10 g11 g12 g13 g14 g15 g16 g17 g18 g19 g20 g21 g22 g23 hm
    refine to_i (pc := 22) rw_5_22 rfl ?_
    refine to_in (pc := 24) rw_5_24 rfl ?_
    refine b_cge (pc := 25) rw_5_25 (A := x6.toInt) (B := b.toInt) rfl rfl (fun h1 => ?_) (fun h1 => ?_)
    · refine to_rv (pc := 69) rw_5_69 ?_
      exact h N hG F0 (LS5_x g23 (by omega) (by omega) (by omega) (by omega))
    · refine to_an (pc := 28) rw_5_28 rfl ?_
      refine to_in (pc := 29) rw_5_29 rfl ?_
      refine to_c (pc := 30) rw_5_30 (x := (1 : Int32)) rfl rfl ?_
      refine s_sub (pc := 31) rw_5_31 (A := l.toInt) (B := 1) rfl rfl (by omega) (fun v2 e3 => ?_)
      refine to_i (pc := 32) rw_5_32 rfl ?_
      refine to_in (pc := 34) rw_5_34 rfl ?_
      refine to_c (pc := 35) rw_5_35 (x := (1 : Int32)) rfl rfl ?_
      refine to_i (pc := 36) rw_5_36 rfl ?_
      refine s_opE (pc := 38) rw_5_38 (w := (1 : Int32) <<< x6) rfl (fun v4 e5 => ?_)
      refine s_opE (pc := 39) rw_5_39 (w := c ||| v4) rfl (fun v6 e7 => ?_)
      refine to_i (pc := 40) rw_5_40 rfl ?_
      refine to_an (pc := 42) rw_5_42 rfl ?_
      refine s_gR (pc := 43) rw_5_43 hG rfl (v := 37) rfl ?_
      refine to_i (pc := 46) rw_5_46 rfl ?_
      refine s_ial (pc := 48) rw_5_48 hG rfl (n := 24) rfl rfl (A := x6.toInt) rfl (by omega) (by omega) (lo := -2147483648) (hi := 2147483647) rfl rfl (fun v8 w_9 _ _ => ?_)
      have z_10 := CU5_1 g19 (A := x6.toInt) (by omega) (by omega) w_9
      refine s_and' (pc := 49) rw_5_49 (A := y.toInt) rfl (by omega) (fun v11 e12 _ _ => ?_)
      have z_13 : 0 ≤ v11.toInt ∧ v11.toInt ≤ y.toInt := by rw [← e12]; exact i_and_l (by omega)
      refine to_i (pc := 50) rw_5_50 rfl ?_
      refine to_an (pc := 52) rw_5_52 rfl ?_
      refine s_gR (pc := 53) rw_5_53 hG rfl (v := 38) rfl ?_
      refine to_i (pc := 56) rw_5_56 rfl ?_
      refine s_ial (pc := 58) rw_5_58 hG rfl (n := 24) rfl rfl (A := x6.toInt) rfl (by omega) (by omega) (lo := -2147483648) (hi := 2147483647) rfl rfl (fun v14 w_15 _ _ => ?_)
      have z_16 := CU5_2 g19 (A := x6.toInt) (by omega) (by omega) w_15
      refine s_add (pc := 59) rw_5_59 (A := s.toInt) (B := v14.toInt) rfl rfl (by omega) (fun v17 e18 => ?_)
      refine s_v (pc := 60) rw_5_60 (by omega) (ls0 := [.ref 36, .int v2, .int x6, .int v6, .int v11, .int v17, .null]) rfl (Nat.le_of_ble_eq_true rfl) (Nat.le_of_ble_eq_true rfl) rfl (to_rc rfl rfl rfl (g_o hG rfl)) rfl ?_
      refine hr X _ _ _ v2 x6 v6 v11 v17 wi cu sh kk ww (x_upZ yy (l.toInt - 1).toNat x6.toInt) (fun x => vv x ∨ x_Cb (kk : Int) ww l.toInt x6.toInt yy x) hX (by omega) hG (by omega) (by omega) (by omega) (by omega) (by omega) (by omega) (by omega) (by omega) (by omega) (by omega) (by omega) (by omega) (OR5_s g17 (by omega) (by omega) (by omega) (by omega)) (SB5_s g18 (by omega) (by omega) (by omega) (by omega)) g19 (CH5_s g20 (by omega) (by omega) (by omega) e5 rfl e7) (DD5_s g21 (by omega) (by omega) (by omega) z_10 e12) (SS5_s g22 (by omega) (by omega) (by omega) z_16.1 (by omega)) g23 (by omega) (fun M22 hG20 F19 p_21 => ?_)
      have F23 := FR.c F0 F19 (fun a i z => show a = 36 ∧ 2 ≤ i ∧ i ≤ 4 by have z : a = 36 ∧ 2 ≤ i ∧ i ≤ 4 := z; omega)
      refine s_inc (pc := 63) rw_5_63 (ls2 := fun v => [.ref 36, .int l, .int b, .int c, .int y, .int s, .int v]) rfl rfl (fun _ => rfl) (A := x6.toInt) (B := 1) rfl rfl (by omega) (fun v24 e25 => ?_)
      refine to_go (pc := 66) rw_5_66 ?_
      exact ih M22 v24 hG20 F23 (by omega) (by omega) (by omega) (by omega) (by omega) (by omega) (by omega) (by omega) (by omega) (by omega) (by omega) (by omega) (by omega) (by omega) (by omega) (by omega) g17 g18 (CU5_f (fun i => (F_n F19 (show ¬ (37 = 36 ∧ 2 ≤ i ∧ i ≤ 4) by omega) rfl)) (fun i => (F_n F19 (show ¬ (38 = 36 ∧ 2 ≤ i ∧ i ≤ 4) by omega) rfl)) g19) g20 g21 g22 (LS5_s p_21 (by omega) (by omega) (by omega) (by omega)) (by omega)
set_option maxRecDepth 4000 in
set_option maxHeartbeats 0 in
theorem BE_5 {X : mm_X} {d : Nat} {M : mm_M} {Q : Option Value → mm_M → Prop} {l : Int32} {b : Int32} {c : Int32} {y : Int32} {s : Int32} {wi : Int32} {cu : Nat → Int32} {sh : Nat → Int} {kk : Nat} {ww : Int} {yy : Nat → Int} {vv : (Nat → Int) → Prop} (hX : g_X X) (hd : 1 + l.toInt ≤ (d : Int)) (hG : g_G M) (q1 : 0 ≤ l.toInt) (q2 : l.toInt ≤ 4) (q3 : 0 ≤ b.toInt) (q4 : b.toInt ≤ 24) (q5 : b.toInt ≤ ww) (q6 : ww ≤ 24) (q7 : l.toInt ≤ (kk : Int)) (q8 : (kk : Int) ≤ 4) (q9 : 0 ≤ y.toInt) (q10 : y.toInt ≤ 1073741823) (q11 : 0 ≤ s.toInt) (q12 : s.toInt ≤ 1000 - 100 * l.toInt) (q13 : OR5 kk ww l.toInt b.toInt yy vv) (q14 : SB5 kk ww l.toInt b.toInt yy) (q15 : CU5 M cu sh ww) (q16 : c = x_bo yy kk (kk - (l.toInt).toNat)) (q17 : y = x_dd wi cu yy kk (kk - (l.toInt).toNat)) (q18 : s.toInt = x_ss sh yy kk (kk - (l.toInt).toNat)) (q19 : LSM M wi cu sh kk vv) (hr : RE_5 (l.toInt)) (h : ∀ (M1 : mm_M), g_G M1 → FR md_b6 M M1 → (LSM M1 wi cu sh kk (fun x => vv x ∨ x_Cb (kk : Int) ww l.toInt b.toInt yy x)) → Q (none) M1) : mm_T X d 5 0 [.ref 36, .int l, .int b, .int c, .int y, .int s, .null] [] M Q := by
  have F0 : FR md_b6 M M := FR.rf
  refine to_in (pc := 0) rw_5_0 rfl ?_
  refine b_igt (pc := 1) rw_5_1 (A := l.toInt) rfl (fun h26 => ?_) (fun h26 => ?_)
  · refine to_in (pc := 17) rw_5_17 rfl ?_
    refine to_c (pc := 18) rw_5_18 (x := (1 : Int32)) rfl rfl ?_
    refine s_sub (pc := 19) rw_5_19 (A := l.toInt) (B := 1) rfl rfl (by omega) (fun v27 e28 => ?_)
    refine to_is (pc := 20) rw_5_20 (ls2 := [.ref 36, .int l, .int b, .int c, .int y, .int s, .int v27]) rfl rfl ?_
    exact (U_5_0 (l := l) (b := b) (c := c) (y := y) (s := s) (wi := wi) (cu := cu) (sh := sh) (kk := kk) (ww := ww) (yy := yy) (vv := vv) hX hd q1 q2 q3 q4 q5 q6 q7 q8 q9 q10 q11 q12 q13 q14 q15 q16 q17 q18 q19 hr h ((24 - v27.toInt).toNat + 1)) M v27 hG F0 (by omega) (by omega) (by omega) (by omega) (by omega) (by omega) (by omega) (by omega) (by omega) (by omega) (by omega) (by omega) (by omega) (by omega) (by omega) (by omega) q13 q14 q15 q16 q17 q18 (LS5_0 q19 (by omega) (by omega) (by omega)) (by omega)
  · refine to_an (pc := 4) rw_5_4 rfl ?_
    refine to_in (pc := 5) rw_5_5 rfl ?_
    refine to_i (pc := 6) rw_5_6 rfl ?_
    refine s_s (pc := 8) rw_5_8 (by omega) (ls0 := [.int y]) rfl (Nat.le_of_ble_eq_true rfl) (Nat.le_of_ble_eq_true rfl) rfl (to_rcs rfl rfl) rfl ?_
    refine E_247w hX (by omega) hG (by omega) (by omega) (x := y) (fun r29 M33 hG31 F30 p_32 => ?_)
    have F34 := FR.c F0 F30 (fun a i z => show a = 36 ∧ 2 ≤ i ∧ i ≤ 4 by have z : a < 0 := z; omega)
    refine to_i (pc := 11) rw_5_11 rfl ?_
    refine s_v (pc := 13) rw_5_13 (by omega) (ls0 := [.ref 36, .int c, .int r29, .int s, .null]) rfl (Nat.le_of_ble_eq_true rfl) (Nat.le_of_ble_eq_true rfl) rfl (to_rc rfl rfl rfl (g_o hG31 rfl)) rfl ?_
    have c_35 : M33.2.1 36 2 = (M.2.1 36 2) := (F_n F30 (show ¬ (36 < 0) by decide) rfl)
    have t_36 : (M33.2.1 36 2).toInt = (M.2.1 36 2).toInt := congrArg Int32.toInt c_35
    have c_37 : M33.2.1 36 3 = (M.2.1 36 3) := (F_n F30 (show ¬ (36 < 0) by decide) rfl)
    have t_38 : (M33.2.1 36 3).toInt = (M.2.1 36 3).toInt := congrArg Int32.toInt c_37
    have c_39 : M33.2.1 36 4 = (M.2.1 36 4) := (F_n F30 (show ¬ (36 < 0) by decide) rfl)
    have t_40 : (M33.2.1 36 4).toInt = (M.2.1 36 4).toInt := congrArg Int32.toInt c_39
    have z_41 := LS5_f (F_n F30 (show ¬ (36 < 0) by decide) rfl) (F_n F30 (show ¬ (36 < 0) by decide) rfl) (F_n F30 (show ¬ (36 < 0) by decide) rfl) q19
    refine E_6 hX (by omega) hG31 (c := c) (b := r29) (s := s) (fun M46 hG43 F42 p_44 p_45 => ?_)
    have F47 := FR.c F34 F42 (fun a i z => show a = 36 ∧ 2 ≤ i ∧ i ≤ 4 by have z : a = 36 ∧ 2 ≤ i ∧ i ≤ 4 := z; omega)
    refine to_rv (pc := 16) rw_5_16 ?_
    exact h M46 hG43 F47 (LS5_l z_41 q13 q14 (by omega) (by omega) (by omega) q16 p_32 q17 q18 rfl rfl rfl p_44 p_45)
theorem RE_5_all : ∀ nn : Nat, RE_5 (nn : Int) := by
  intro nn
  induction nn with
  | zero =>
    intro X d M Q l b c y s wi cu sh kk ww yy vv hX hd hG q1 q2 q3 q4 q5 q6 q7 q8 q9 q10 q11 q12 q13 q14 q15 q16 q17 q18 q19 hm h
    exfalso; omega
  | succ nn ih =>
    intro X d M Q l b c y s wi cu sh kk ww yy vv hX hd hG q1 q2 q3 q4 q5 q6 q7 q8 q9 q10 q11 q12 q13 q14 q15 q16 q17 q18 q19 hm h
    exact BE_5 hX hd hG q1 q2 q3 q4 q5 q6 q7 q8 q9 q10 q11 q12 q13 q14 q15 q16 q17 q18 q19 (fun X2 d2 M2 Q2 l2 b2 c2 y2 s2 wi2 cu2 sh2 kk2 ww2 yy2 vv2 e71 e72 e73 q12 q22 q32 q42 q52 q62 q72 q82 q92 q102 q112 q122 q132 q142 q152 q162 q172 q182 q192 hm2 h2 => ih X2 d2 M2 Q2 l2 b2 c2 y2 s2 wi2 cu2 sh2 kk2 ww2 yy2 vv2 e71 e72 e73 q12 q22 q32 q42 q52 q62 q72 q82 q92 q102 q112 q122 q132 q142 q152 q162 q172 q182 q192 (by omega) h2) h
theorem E_5 {X : mm_X} {d : Nat} {M : mm_M} {Q : Option Value → mm_M → Prop} {l : Int32} {b : Int32} {c : Int32} {y : Int32} {s : Int32} {wi : Int32} {cu : Nat → Int32} {sh : Nat → Int} {kk : Nat} {ww : Int} {yy : Nat → Int} {vv : (Nat → Int) → Prop} (hX : g_X X) (hd : 1 + l.toInt ≤ (d : Int)) (hG : g_G M) (q1 : 0 ≤ l.toInt) (q2 : l.toInt ≤ 4) (q3 : 0 ≤ b.toInt) (q4 : b.toInt ≤ 24) (q5 : b.toInt ≤ ww) (q6 : ww ≤ 24) (q7 : l.toInt ≤ (kk : Int)) (q8 : (kk : Int) ≤ 4) (q9 : 0 ≤ y.toInt) (q10 : y.toInt ≤ 1073741823) (q11 : 0 ≤ s.toInt) (q12 : s.toInt ≤ 1000 - 100 * l.toInt) (q13 : OR5 kk ww l.toInt b.toInt yy vv) (q14 : SB5 kk ww l.toInt b.toInt yy) (q15 : CU5 M cu sh ww) (q16 : c = x_bo yy kk (kk - (l.toInt).toNat)) (q17 : y = x_dd wi cu yy kk (kk - (l.toInt).toNat)) (q18 : s.toInt = x_ss sh yy kk (kk - (l.toInt).toNat)) (q19 : LSM M wi cu sh kk vv) (h : ∀ (M1 : mm_M), g_G M1 → FR md_b6 M M1 → (LSM M1 wi cu sh kk (fun x => vv x ∨ x_Cb (kk : Int) ww l.toInt b.toInt yy x)) → Q (none) M1) : mm_T X d 5 0 [.ref 36, .int l, .int b, .int c, .int y, .int s, .null] [] M Q := RE_5_all ((l.toInt).toNat + 1) X d M Q l b c y s wi cu sh kk ww yy vv hX hd hG q1 q2 q3 q4 q5 q6 q7 q8 q9 q10 q11 q12 q13 q14 q15 q16 q17 q18 q19 (by omega) h
