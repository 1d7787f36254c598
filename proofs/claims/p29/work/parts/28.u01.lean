set_option maxRecDepth 4000 in
set_option maxHeartbeats 0 in
theorem U_70_0 {X : mm_X} {d : Nat} {M : mm_M} {Q : Option Value → mm_M → Prop} {V9 : Nat → Int} {s9 : Int} (hX : g_X X) (hd : 0 ≤ d) (q1 : 0 ≤ s9) (q2 : s9 ≤ 30) (q3 : (M.2.1 42 0).toInt = s9) (q4 : ∀ i : Nat, (i : Int) < s9 → (M.2.1 43 i).toInt = V9 i) (h : ∀ (r : Int32) (M1 : mm_M), g_G M1 → FR md_p45 M M1 → (r.toInt = s9 - x_bM V9 s9.toNat) → Q (some (.int r)) M1) : ∀ nn9 : Nat, (∀ (N : mm_M) (x1 : Int32) (x2 : Int32) (u3 : Value), g_G N → FR md_p45 M N → (0 ≤ x2.toInt) → (x2.toInt ≤ 30) → (x2.toInt ≤ s9) → ((N.2.1 42 0).toInt = s9) → (∀ i : Nat, (i : Int) < s9 → (N.2.1 43 i).toInt = V9 i) → (∀ k : Nat, (k : Int) < x2.toInt → (N.2.1 45 k).toInt = x_bL V9 (x2.toInt).toNat k) → (x1.toInt = x_bM V9 (x2.toInt).toNat) → (30 - x2.toInt) * 100 + 50 < (nn9 : Int) → mm_T X d 70 4 [.ref 42, .int x1, .int x2, u3] [] N Q) ∧ (∀ (N : mm_M) (x1 : Int32) (x2 : Int32) (x3 : Int32), g_G N → FR md_p45 M N → (0 ≤ x2.toInt) → (x2.toInt ≤ 29) → (x2.toInt < s9) → (0 ≤ x3.toInt) → (x3.toInt ≤ 30) → (x3.toInt ≤ x2.toInt) → ((N.2.1 42 0).toInt = s9) → (∀ i : Nat, (i : Int) < s9 → (N.2.1 43 i).toInt = V9 i) → (∀ k : Nat, (k : Int) < x2.toInt → (N.2.1 45 k).toInt = x_bL V9 (x2.toInt).toNat k) → (x1.toInt = x_bM V9 (x2.toInt).toNat) → (x_bj V9 (x_bL V9 (x2.toInt).toNat) (x2.toInt).toNat (x2.toInt - x3.toInt).toNat (x3.toInt).toNat (N.2.1 45 (x2.toInt).toNat).toInt = x_bj V9 (x_bL V9 (x2.toInt).toNat) (x2.toInt).toNat (x2.toInt).toNat 0 1) → (30 - x2.toInt) * 100 + 30 - x3.toInt < (nn9 : Int) → mm_T X d 70 21 [.ref 42, .int x1, .int x2, .int x3] [] N Q) := by
  intro nn9
  induction nn9 with
  | zero =>
    refine ⟨?_, ?_⟩
    · intro N x1 x2 u3 hG F0 g1 g2 g3 g4 g5 g6 g7 hm
      have b_1 := g_b hG (a := 42) (i := 0) (lo := 0) (hi := 30) rfl rfl
      exfalso; omega
    · intro N x1 x2 x3 hG F0 g1 g2 g3 g4 g5 g6 g7 g8 g9 g10 g11 hm
      have b_2 := g_b hG (a := 42) (i := 0) (lo := 0) (hi := 30) rfl rfl
      exfalso; omega
  | succ nn9 ih =>
    refine ⟨?_, ?_⟩
    · intro N x1 x2 u3 hG F0 g1 g2 g3 g4 g5 g6 g7 hm
      have b_3 := g_b hG (a := 42) (i := 0) (lo := 0) (hi := 30) rfl rfl
      have z_4 := x_bM_b (V := V9) (x2.toInt).toNat
      refine to_in (pc := 4) rw_70_4 rfl ?_
      refine to_an (pc := 5) rw_70_5 rfl ?_
      refine tt_gI (pc := 6) rw_70_6 (g_o hG rfl) (v := (N.2.1 42 0)) rfl ?_
      refine b_cge (pc := 9) rw_70_9 (A := x2.toInt) (B := (N.2.1 42 0).toInt) rfl rfl (fun h5 => ?_) (fun h5 => ?_)
      · refine to_an (pc := 87) rw_70_87 rfl ?_
        refine tt_gI (pc := 88) rw_70_88 (g_o hG rfl) (v := (N.2.1 42 0)) rfl ?_
        refine to_in (pc := 91) rw_70_91 rfl ?_
        refine s_sub (pc := 92) rw_70_92 (A := (N.2.1 42 0).toInt) (B := x1.toInt) rfl rfl (by omega) (fun v6 e7 => ?_)
        refine to_r0 (pc := 93) rw_70_93 ?_
        have z_8 := bm_x g7 (show x2.toInt = s9 by omega)
        exact h v6 N hG F0 (by omega)
      · refine to_an (pc := 12) rw_70_12 rfl ?_
        refine s_gR (pc := 13) rw_70_13 hG rfl (v := 45) rfl ?_
        refine to_in (pc := 16) rw_70_16 rfl ?_
        refine to_c (pc := 17) rw_70_17 (x := (1 : Int32)) rfl rfl ?_
        refine s_ias (pc := 18) rw_70_18 hG rfl (n := 30) rfl (A := x2.toInt) rfl (by omega) (by omega) (fun M10 W9 => ?_)
        have hG11 := g_wf hG W9 rfl rfl (by decide)
        have F12 := FR.w F0 W9 (show 45 = 45 by decide)
        have z_13 := congrArg Int32.toInt (W_e W9)
        have k_14 : (1 : Int32).toInt = 1 := rfl
        refine to_c (pc := 19) rw_70_19 (x := (0 : Int32)) rfl rfl ?_
        refine to_isn (pc := 20) rw_70_20 (ls2 := [.ref 42, .int x1, .int x2, .int (0 : Int32)]) rfl rfl ?_
        have k_15 : (0 : Int32).toInt = 0 := rfl
        have c_16 : M10.2.1 42 0 = (N.2.1 42 0) := (W_n W9 (fun z => absurd z.1 (by decide)) rfl)
        have t_17 : (M10.2.1 42 0).toInt = (N.2.1 42 0).toInt := congrArg Int32.toInt c_16
        exact ih.2 M10 x1 x2 (0 : Int32) hG11 F12 (by omega) (by omega) (by omega) (by omega) (by omega) (by omega) (by omega) (fun k hk => (congrArg Int32.toInt ((W_n W9 (by omega) rfl))).trans (g5 k hk)) (fun k hk => (congrArg Int32.toInt ((W_n W9 (by omega) rfl))).trans (g6 k (by omega))) g7 (bj_0 (by omega) (by rw [show M10.2.1 45 (x2.toInt).toNat = (1 : Int32) from (W_e W9)]; rfl) (by omega)) (by omega)
    · intro N x1 x2 x3 hG F0 g1 g2 g3 g4 g5 g6 g7 g8 g9 g10 g11 hm
      have b_18 := g_b hG (a := 42) (i := 0) (lo := 0) (hi := 30) rfl rfl
      have z_19 := x_bM_b (V := V9) (x2.toInt).toNat
      refine to_in (pc := 21) rw_70_21 rfl ?_
      refine to_in (pc := 22) rw_70_22 rfl ?_
      refine b_cge (pc := 23) rw_70_23 (A := x3.toInt) (B := x2.toInt) rfl rfl (fun h20 => ?_) (fun h20 => ?_)
      · refine to_in (pc := 70) rw_70_70 rfl ?_
        refine to_an (pc := 71) rw_70_71 rfl ?_
        refine s_gR (pc := 72) rw_70_72 hG rfl (v := 45) rfl ?_
        refine to_in (pc := 75) rw_70_75 rfl ?_
        refine s_ial (pc := 76) rw_70_76 hG rfl (n := 30) rfl rfl (A := x2.toInt) rfl (by omega) (by omega) (lo := -2147483648) (hi := 2147483647) rfl rfl (fun v21 w_22 _ _ => ?_)
        have z_23 := congrArg Int32.toInt (w_22)
        refine s_max (pc := 77) rw_70_77 rfl (A := x1.toInt) (B := v21.toInt) rfl rfl (fun v24 _ _ _ => ?_)
        refine to_isn (pc := 80) rw_70_80 (ls2 := [.ref 42, .int v24, .int x2, .int x3]) rfl rfl ?_
        refine s_inc (pc := 81) rw_70_81 (ls2 := fun v => [.ref 42, .int v24, .int v, .int x3]) rfl rfl (fun _ => rfl) (A := x2.toInt) (B := 1) rfl rfl (by omega) (fun v25 e26 => ?_)
        refine to_go (pc := 84) rw_70_84 ?_
        have z_27 := bl_s (r := 45) (i2 := v25.toInt) g9 g11 (by omega) (by omega) (by omega)
        have z_28 := x_bL_b (V := V9) (v25.toInt).toNat (x2.toInt).toNat
        exact ih.1 N v24 v25 (.int x3) hG F0 (by omega) (by omega) (by omega) (by omega) g8 z_27 (bm_s z_27 (i := x2.toInt) (by omega) (by omega) g10 (by omega) (by omega) (by omega)) (by omega)
      · refine to_an (pc := 26) rw_70_26 rfl ?_
        refine s_gR (pc := 27) rw_70_27 hG rfl (v := 43) rfl ?_
        refine to_in (pc := 30) rw_70_30 rfl ?_
        refine s_ial (pc := 31) rw_70_31 hG rfl (n := 30) rfl rfl (A := x3.toInt) rfl (by omega) (by omega) (lo := -2147483648) (hi := 2147483647) rfl rfl (fun v29 w_30 _ _ => ?_)
        have z_31 := (congrArg Int32.toInt (w_30)).symm.trans (g8 (x3.toInt).toNat (by omega))
        refine to_an (pc := 32) rw_70_32 rfl ?_
        refine s_gR (pc := 33) rw_70_33 hG rfl (v := 43) rfl ?_
        refine to_in (pc := 36) rw_70_36 rfl ?_
        refine s_ial (pc := 37) rw_70_37 hG rfl (n := 30) rfl rfl (A := x2.toInt) rfl (by omega) (by omega) (lo := -2147483648) (hi := 2147483647) rfl rfl (fun v32 w_33 _ _ => ?_)
        have z_34 := (congrArg Int32.toInt (w_33)).symm.trans (g8 (x2.toInt).toNat (by omega))
        refine b_cgt (pc := 38) rw_70_38 (A := v29.toInt) (B := v32.toInt) rfl rfl (fun h35 => ?_) (fun h35 => ?_)
        · refine s_inc (pc := 64) rw_70_64 (ls2 := fun v => [.ref 42, .int x1, .int x2, .int v]) rfl rfl (fun _ => rfl) (A := x3.toInt) (B := 1) rfl rfl (by omega) (fun v36 e37 => ?_)
          refine to_go (pc := 67) rw_70_67 ?_
          exact ih.2 N x1 x2 v36 hG F0 (by omega) (by omega) (by omega) (by omega) (by omega) (by omega) (by omega) g8 g9 g10 (bj_s g11 (by omega) (by omega) (by omega) (bj_n (by omega) rfl)) (by omega)
        · refine to_an (pc := 41) rw_70_41 rfl ?_
          refine s_gR (pc := 42) rw_70_42 hG rfl (v := 45) rfl ?_
          refine to_in (pc := 45) rw_70_45 rfl ?_
          refine to_an (pc := 46) rw_70_46 rfl ?_
          refine s_gR (pc := 47) rw_70_47 hG rfl (v := 45) rfl ?_
          refine to_in (pc := 50) rw_70_50 rfl ?_
          refine s_ial (pc := 51) rw_70_51 hG rfl (n := 30) rfl rfl (A := x2.toInt) rfl (by omega) (by omega) (lo := -2147483648) (hi := 2147483647) rfl rfl (fun v38 w_39 _ _ => ?_)
          have z_40 := congrArg Int32.toInt (w_39)
          refine to_an (pc := 52) rw_70_52 rfl ?_
          refine s_gR (pc := 53) rw_70_53 hG rfl (v := 45) rfl ?_
          refine to_in (pc := 56) rw_70_56 rfl ?_
          refine s_ial (pc := 57) rw_70_57 hG rfl (n := 30) rfl rfl (A := x3.toInt) rfl (by omega) (by omega) (lo := -2147483648) (hi := 2147483647) rfl rfl (fun v41 w_42 _ _ => ?_)
          have z_43 := (congrArg Int32.toInt (w_42)).symm.trans (g9 (x3.toInt).toNat (by omega))
          have z_44 := x_bL_b (V := V9) (x2.toInt).toNat (x3.toInt).toNat
          refine to_c (pc := 58) rw_70_58 (x := (1 : Int32)) rfl rfl ?_
          refine s_add (pc := 59) rw_70_59 (A := v41.toInt) (B := 1) rfl rfl (by omega) (fun v45 e46 => ?_)
          refine s_max (pc := 60) rw_70_60 rfl (A := v38.toInt) (B := v45.toInt) rfl rfl (fun v47 _ _ _ => ?_)
          refine s_ias (pc := 63) rw_70_63 hG rfl (n := 30) rfl (A := x2.toInt) rfl (by omega) (by omega) (fun M49 W48 => ?_)
          have hG50 := g_wf hG W48 rfl rfl (by decide)
          have F51 := FR.w F0 W48 (show 45 = 45 by decide)
          have z_52 := congrArg Int32.toInt (W_e W48)
          refine s_inc (pc := 64) rw_70_64 (ls2 := fun v => [.ref 42, .int x1, .int x2, .int v]) rfl rfl (fun _ => rfl) (A := x3.toInt) (B := 1) rfl rfl (by omega) (fun v53 e54 => ?_)
          refine to_go (pc := 67) rw_70_67 ?_
          have c_55 : M49.2.1 42 0 = (N.2.1 42 0) := (W_n W48 (fun z => absurd z.1 (by decide)) rfl)
          have t_56 : (M49.2.1 42 0).toInt = (N.2.1 42 0).toInt := congrArg Int32.toInt c_55
          exact ih.2 M49 x1 x2 v53 hG50 F51 (by omega) (by omega) (by omega) (by omega) (by omega) (by omega) (by omega) (fun k hk => (congrArg Int32.toInt ((W_n W48 (by omega) rfl))).trans (g8 k hk)) (fun k hk => (congrArg Int32.toInt ((W_n W48 (by omega) rfl))).trans (g9 k (by omega))) g10 (bj_s g11 (by omega) (by omega) (by omega) (bj_m (by omega) (by omega) (by omega) (by omega))) (by omega)
set_option maxRecDepth 4000 in
set_option maxHeartbeats 0 in
theorem E_70 {X : mm_X} {d : Nat} {M : mm_M} {Q : Option Value → mm_M → Prop} {V9 : Nat → Int} {s9 : Int} (hX : g_X X) (hd : 0 ≤ d) (hG : g_G M) (q1 : 0 ≤ s9) (q2 : s9 ≤ 30) (q3 : (M.2.1 42 0).toInt = s9) (q4 : ∀ i : Nat, (i : Int) < s9 → (M.2.1 43 i).toInt = V9 i) (h : ∀ (r : Int32) (M1 : mm_M), g_G M1 → FR md_p45 M M1 → (r.toInt = s9 - x_bM V9 s9.toNat) → Q (some (.int r)) M1) : mm_T X d 70 0 [.ref 42, .null, .null, .null] [] M Q := by
  have F0 : FR md_p45 M M := FR.rf
  have b_57 := g_b hG (a := 42) (i := 0) (lo := 0) (hi := 30) rfl rfl
  refine to_c (pc := 0) rw_70_0 (x := (0 : Int32)) rfl rfl ?_
  refine to_isn (pc := 1) rw_70_1 (ls2 := [.ref 42, .int (0 : Int32), .null, .null]) rfl rfl ?_
  refine to_c (pc := 2) rw_70_2 (x := (0 : Int32)) rfl rfl ?_
  refine to_isn (pc := 3) rw_70_3 (ls2 := [.ref 42, .int (0 : Int32), .int (0 : Int32), .null]) rfl rfl ?_
  have k_58 : (0 : Int32).toInt = 0 := rfl
  exact (U_70_0 (V9 := V9) (s9 := s9) hX hd q1 q2 q3 q4 h (((30 - (0 : Int32).toInt) * 100 + 50).toNat + 1)).1 M (0 : Int32) (0 : Int32) (.null) hG F0 (by omega) (by omega) (by omega) (by omega) q4 (bl_0 (by omega)) (bm_0 (by omega) (by omega)) (by omega)
set_option maxRecDepth 4000 in
set_option maxHeartbeats 0 in
theorem U_69_0 {X : mm_X} {d : Nat} {M : mm_M} {Q : Option Value → mm_M → Prop} {k : Int32} {p : Nat} {f : Int32} {sg : x_S} {ca : Int} {K : x_Kn} {P9 : x_P} {n9 : Int} (hX : g_X X) (hd : 1 ≤ d) (hp : p = 49 ∨ p = 58) (q1 : 0 ≤ k.toInt) (q2 : k.toInt ≤ 5) (q3 : 0 ≤ f.toInt) (q4 : f.toInt < sg.2.1) (q5 : PLs M p sg) (q6 : KST M 12 13 14 15 ca sg K) (q7 : PKc M P9) (q8 : x_pg P9 n9 ca) (q9 : ca ≤ 30) (q10 : n9 ≤ 30) (h : ∀ (M1 : mm_M), g_G M1 → FR md_p42 M M1 → ((M1.2.1 42 0).toInt = P9.2 k.toInt) → (∀ i : Nat, (i : Int) < P9.2 k.toInt → (M1.2.1 43 i).toInt = x_bv K (P9.1 k.toInt) f.toInt i) → Q (none) M1) : ∀ nn9 : Nat, (∀ (N : mm_M) (x6 : Int32) (u7 : Value), g_G N → FR md_p42 M N → (0 ≤ x6.toInt) → (x6.toInt ≤ 30) → (x6.toInt ≤ P9.2 k.toInt) → ((N.2.1 42 0).toInt = P9.2 k.toInt) → (PLs N p sg) → (KST N 12 13 14 15 ca sg K) → (PKc N P9) → (∀ i : Nat, (i : Int) < x6.toInt → (N.2.1 43 i).toInt = x_bv K (P9.1 k.toInt) f.toInt i) → 30 - x6.toInt < (nn9 : Int) → mm_T X d 69 28 [.ref 42, .ref 17, .int k, .ref p, .ref 11, .int f, .int x6, u7] [] N Q) := by
  intro nn9
  induction nn9 with
  | zero =>
    intro N x6 u7 hG F0 g1 g2 g3 g4 g5 g6 g7 g8 hm
    have b_1 := g_b hG (a := 42) (i := 0) (lo := 0) (hi := 30) rfl rfl
    exfalso; omega
  | succ nn9 ih =>
    intro N x6 u7 hG F0 g1 g2 g3 g4 g5 g6 g7 g8 hm
    have b_2 := g_b hG (a := 42) (i := 0) (lo := 0) (hi := 30) rfl rfl
    have z_3 := g5.2.1
    have z_4 := g5.2.2.1
    have z_5 := g5.2.2.2.1
    have z_6 := g5.1
    have z_7 := z_6.1
    have z_8 := z_6.2.1
    have z_9 := z_6.2.2.1
    have z_10 := z_6.2.2.2.1
    have z_11 := z_6.2.2.2.2.1
    have z_12 := z_6.2.2.2.2.2.1
    have z_13 := g5.1.2.2.2.2.2.2.2 f.toInt (by omega) (by omega)
    have z_14 := x_pg_le (p := k.toInt) q8 (by omega) (by omega)
    refine to_i (pc := 28) rw_69_28 rfl ?_
    refine to_an (pc := 30) rw_69_30 rfl ?_
    refine tt_gI (pc := 31) rw_69_31 (g_o hG rfl) (v := (N.2.1 42 0)) rfl ?_
    refine b_cge (pc := 34) rw_69_34 (A := x6.toInt) (B := (N.2.1 42 0).toInt) rfl rfl (fun h15 => ?_) (fun h15 => ?_)
    · refine to_rv (pc := 102) rw_69_102 ?_
      exact h N hG F0 (by omega) (fun i hi => g8 i (by omega))
    · refine to_an (pc := 37) rw_69_37 rfl ?_
      refine s_gR (pc := 38) rw_69_38 hG rfl (v := 18) rfl ?_
      refine to_in (pc := 41) rw_69_41 rfl ?_
      refine s_aalE (pc := 42) rw_69_42 hG (A := k.toInt) rfl (by omega) (by omega) (fun r16 e17 => ?_)
      have hr16 : 19 ≤ r16 ∧ r16 ≤ 24 := by omega
      refine to_i (pc := 43) rw_69_43 rfl ?_
      refine s_ial (pc := 45) rw_69_45 hG (by rcases rr_6 hr16 with z | z | z | z | z | z <;> rw [z] <;> rfl) (n := 30) (by rcases rr_6 hr16 with z | z | z | z | z | z <;> rw [z] <;> rfl) (by rcases rr_6 hr16 with z | z | z | z | z | z <;> rw [z] <;> rfl) (A := x6.toInt) rfl (by omega) (by omega) (lo := 0) (hi := 29) (by rcases rr_6 hr16 with z | z | z | z | z | z <;> rw [z] <;> rfl) (by rcases rr_6 hr16 with z | z | z | z | z | z <;> rw [z] <;> rfl) (fun v18 w_19 _ _ => ?_)
      have z_20 := PKc_r (p := k.toInt) (k := x6.toInt) g7 (by omega) (by omega) e17 (by omega) (by omega) w_19
      have z_21 := (q8.2 k.toInt (by omega) (by omega)).2 (x6.toInt).toNat (by omega)
      refine to_is (pc := 46) rw_69_46 (ls2 := [.ref 42, .ref 17, .int k, .ref p, .ref 11, .int f, .int x6, .int v18]) rfl rfl ?_
      refine to_an (pc := 48) rw_69_48 rfl ?_
      refine s_gR (pc := 49) rw_69_49 hG rfl (v := 43) rfl ?_
      refine to_i (pc := 52) rw_69_52 rfl ?_
      refine to_a (pc := 54) rw_69_54 rfl ?_
      refine to_i (pc := 56) rw_69_56 rfl ?_
      refine to_i (pc := 58) rw_69_58 rfl ?_
      refine s_v (pc := 60) rw_69_60 (dp0 hd (by decide)) (ls0 := [.ref 11, .int v18, .int f]) rfl (Nat.le_of_ble_eq_true rfl) (Nat.le_of_ble_eq_true rfl) rfl (to_rc rfl rfl rfl (g_o hG rfl)) rfl ?_
      refine to_an (pc := 0) rw_12_0 rfl ?_
      refine s_gR (pc := 1) rw_12_1 hG rfl (v := 14) rfl ?_
      refine to_in (pc := 4) rw_12_4 rfl ?_
      refine to_c (pc := 5) rw_12_5 (x := (8 : Int32)) rfl rfl ?_
      refine s_mul (pc := 7) rw_12_7 (A := v18.toInt) (B := 8) rfl rfl (by omega) (fun v22 e23 => ?_)
      refine to_in (pc := 8) rw_12_8 rfl ?_
      refine s_add (pc := 9) rw_12_9 (A := v22.toInt) (B := f.toInt) rfl rfl (by omega) (fun v24 e25 => ?_)
      refine s_ial (pc := 10) rw_12_10 hG rfl (n := 240) rfl rfl (A := v24.toInt) rfl (by omega) (by omega) (lo := -2147483648) (hi := 2147483647) rfl rfl (fun v26 w_27 _ _ => ?_)
      have z_28 : v26 = K.2.2.1 (8 * (v18.toInt).toNat + (f.toInt).toNat) := KST_lv (K := K) g6 (c := v18.toInt) (f := f.toInt) (by omega) (by omega) (by omega) (by omega) (by omega) w_27
      have z_29 := bv_e (R := P9.1 k.toInt) (f := f.toInt) (k := (x6.toInt).toNat) z_28 z_20
      refine to_r0 (pc := 11) rw_12_11 ?_
      refine s_ias (pc := 63) rw_69_63 hG rfl (n := 30) rfl (A := x6.toInt) rfl (by omega) (by omega) (fun M31 W30 => ?_)
      have hG32 := g_wf hG W30 rfl rfl (by decide)
      have F33 := FR.w F0 W30 (show 42 ≤ 43 ∧ 43 ≤ 44 by decide)
      refine to_an (pc := 64) rw_69_64 rfl ?_
      refine s_gR (pc := 65) rw_69_65 hG32 rfl (v := 44) rfl ?_
      refine to_i (pc := 68) rw_69_68 rfl ?_
      refine to_an (pc := 70) rw_69_70 rfl ?_
      refine s_gR (pc := 71) rw_69_71 hG32 rfl (v := 27) rfl ?_
      refine to_i (pc := 74) rw_69_74 rfl ?_
      refine s_lal (pc := 76) rw_69_76 hG32 rfl (n := 30) rfl (A := v18.toInt) rfl (by omega) (by omega) (fun l34 => ?_)
      refine to_an (pc := 77) rw_69_77 rfl ?_
      refine s_gR (pc := 78) rw_69_78 hG32 (by rcases hp with rfl | rfl <;> rfl) (v := (p + 3)) (by rcases hp with rfl | rfl <;> rfl) ?_
      refine to_i (pc := 81) rw_69_81 rfl ?_
      refine s_ial (pc := 83) rw_69_83 hG32 (by rcases hp with rfl | rfl <;> rfl) (n := 8) (by rcases hp with rfl | rfl <;> rfl) (by rcases hp with rfl | rfl <;> rfl) (A := f.toInt) rfl (by omega) (by omega) (lo := 0) (hi := 59) (by rcases hp with rfl | rfl <;> rfl) (by rcases hp with rfl | rfl <;> rfl) (fun v35 w_36 _ _ => ?_)
      have j_37 := (PLs_f (fun a i z => W_n W30 (by /-r43-/ omega) rfl) g5)
      have z_38 := PLs_r j_37 3 (by decide) (by decide) (k := f.toInt) (by omega) (by omega) w_36
      have z_39 := x_row_v (s := sg) (r := 3) (x := f.toInt) (y := f.toInt) (by omega)
      refine s_anyS (pc := 84) rw_69_84 (fun _ _ => rfl) (fun l40 => ?_)
      refine s_l2i (pc := 85) rw_69_85 (fun v41 => ?_)
      refine to_c (pc := 86) rw_69_86 (x := (1 : Int32)) rfl rfl ?_
      refine to_an (pc := 87) rw_69_87 rfl ?_
      have c_42 : M31.2.1 42 1 = (N.2.1 42 1) := (W_n W30 (fun z => absurd z.1 (by decide)) rfl)
      have b_43 := g_b hG (a := 42) (i := 1) (lo := 0) (hi := 6) rfl rfl
      refine tt_gI (pc := 88) rw_69_88 (g_o hG32 rfl) (v := (N.2.1 42 1)) c_42 ?_
      refine s_shl1 (pc := 91) rw_69_91 (B := (N.2.1 42 1).toInt) rfl (by omega) (fun v44 _ _ => ?_)
      refine to_c (pc := 92) rw_69_92 (x := (1 : Int32)) rfl rfl ?_
      refine s_sub (pc := 93) rw_69_93 (A := v44.toInt) (B := 1) rfl rfl (by omega) (fun v45 e46 => ?_)
      refine s_and (pc := 94) rw_69_94 (B := v45.toInt) rfl (by omega) (fun v47 e48 _ _ => ?_)
      refine s_ias (pc := 95) rw_69_95 hG32 rfl (n := 30) rfl (A := x6.toInt) rfl (by omega) (by omega) (fun M50 W49 => ?_)
      have hG51 := g_w hG32 W49 (A := v47.toInt) rfl (lo := 0) (hi := 63) rfl rfl (by omega) (by decide)
      have F52 := FR.w F33 W49 (show 42 ≤ 44 ∧ 44 ≤ 44 by decide)
      refine s_inc (pc := 96) rw_69_96 (ls2 := fun v => [.ref 42, .ref 17, .int k, .ref p, .ref 11, .int f, .int v, .int v18]) rfl rfl (fun _ => rfl) (A := x6.toInt) (B := 1) rfl rfl (by omega) (fun v53 e54 => ?_)
      refine to_go (pc := 99) rw_69_99 ?_
      have c_55 : M50.2.1 42 0 = (N.2.1 42 0) := (W_n W49 (fun z => absurd z.1 (by decide)) (W_n W30 (fun z => absurd z.1 (by decide)) rfl))
      have t_56 : (M50.2.1 42 0).toInt = (N.2.1 42 0).toInt := congrArg Int32.toInt c_55
      have j_57 := (PLs_f (fun a i z => W_n W49 (by /-r44-/ omega) rfl) j_37)
      have kn_58 : KST M50 12 13 14 15 ca sg K := KST_f (fun i => (W_j W49 (W_j W30 rfl))) (fun i => (W_n W49 (by omega) (W_n W30 (by omega) rfl))) (fun i => (W_n W49 (by omega) (W_n W30 (by omega) rfl))) (fun i => (W_j W49 (W_j W30 rfl))) g6
      have j_59 := (PKc_f (fun a i z => W_n W49 (by /-r44-/ omega) rfl) (PKc_f (fun a i z => W_n W30 (by /-r43-/ omega) rfl) g7))
      exact ih M50 v53 (.int v18) hG51 F52 (by omega) (by omega) (by omega) (by omega) j_57 kn_58 j_59 (fun k hk => (congrArg Int32.toInt ((W_n W49 (by omega) rfl))).trans (bv_s g8 (by omega) W30 rfl z_29 (by omega) k hk)) (by omega)
set_option maxRecDepth 4000 in
set_option maxHeartbeats 0 in
theorem E_69 {X : mm_X} {d : Nat} {M : mm_M} {Q : Option Value → mm_M → Prop} {k : Int32} {p : Nat} {f : Int32} {sg : x_S} {ca : Int} {K : x_Kn} {P9 : x_P} {n9 : Int} (hX : g_X X) (hd : 1 ≤ d) (hG : g_G M) (hp : p = 49 ∨ p = 58) (q1 : 0 ≤ k.toInt) (q2 : k.toInt ≤ 5) (q3 : 0 ≤ f.toInt) (q4 : f.toInt < sg.2.1) (q5 : PLs M p sg) (q6 : KST M 12 13 14 15 ca sg K) (q7 : PKc M P9) (q8 : x_pg P9 n9 ca) (q9 : ca ≤ 30) (q10 : n9 ≤ 30) (h : ∀ (M1 : mm_M), g_G M1 → FR md_p42 M M1 → ((M1.2.1 42 0).toInt = P9.2 k.toInt) → (∀ i : Nat, (i : Int) < P9.2 k.toInt → (M1.2.1 43 i).toInt = x_bv K (P9.1 k.toInt) f.toInt i) → Q (none) M1) : mm_T X d 69 0 [.ref 42, .ref 17, .int k, .ref p, .ref 11, .int f, .null, .null] [] M Q := by
  have F0 : FR md_p42 M M := FR.rf
  have z_60 := q5.2.1
  have z_61 := q5.2.2.1
  have z_62 := q5.2.2.2.1
  have z_63 := q5.1
  have z_64 := z_63.1
  have z_65 := z_63.2.1
  have z_66 := z_63.2.2.1
  have z_67 := z_63.2.2.2.1
  have z_68 := z_63.2.2.2.2.1
  have z_69 := z_63.2.2.2.2.2.1
  have z_70 := q5.1.2.2.2.2.2.2.2 f.toInt (by omega) (by omega)
  have z_71 := x_pg_le (p := k.toInt) q8 (by omega) (by omega)
  have b_72 := g_b hG (a := 42) (i := 0) (lo := 0) (hi := 30) rfl rfl
  refine to_an (pc := 0) rw_69_0 rfl ?_
  refine to_an (pc := 1) rw_69_1 rfl ?_
  refine s_gR (pc := 2) rw_69_2 hG rfl (v := 25) rfl ?_
  refine to_in (pc := 5) rw_69_5 rfl ?_
  refine s_ial (pc := 6) rw_69_6 hG rfl (n := 6) rfl rfl (A := k.toInt) rfl (by omega) (by omega) (lo := 0) (hi := 30) rfl rfl (fun v73 w_74 _ _ => ?_)
  have z_75 := PKc_u (p := k.toInt) q7 (by omega) (by omega) w_74
  refine s_pI (pc := 7) rw_69_7 hG rfl (fun M77 W76 => ?_)
  have hG78 := g_w hG W76 (A := v73.toInt) rfl (lo := 0) (hi := 30) rfl rfl (by omega) (by decide)
  have F79 := FR.w F0 W76 (show 42 ≤ 42 ∧ 42 ≤ 44 by decide)
  refine to_an (pc := 10) rw_69_10 rfl ?_
  refine to_an (pc := 11) rw_69_11 rfl ?_
  refine to_i (pc := 12) rw_69_12 rfl ?_
  refine s_v (pc := 14) rw_69_14 (dp0 hd (by decide)) (ls0 := [.ref p, .int f]) rfl (Nat.le_of_ble_eq_true rfl) (Nat.le_of_ble_eq_true rfl) rfl (to_rc rfl rfl rfl (g_o hG78 (by rcases hp with rfl | rfl <;> rfl))) rfl ?_
  refine to_an (pc := 0) rw_47_0 rfl ?_
  refine s_gR (pc := 1) rw_47_1 hG78 (by rcases hp with rfl | rfl <;> rfl) (v := (p + 4)) (by rcases hp with rfl | rfl <;> rfl) ?_
  refine to_in (pc := 4) rw_47_4 rfl ?_
  refine s_ial (pc := 5) rw_47_5 hG78 (by rcases hp with rfl | rfl <;> rfl) (n := 8) (by rcases hp with rfl | rfl <;> rfl) (by rcases hp with rfl | rfl <;> rfl) (A := f.toInt) rfl (by omega) (by omega) (lo := 0) (hi := 63) (by rcases hp with rfl | rfl <;> rfl) (by rcases hp with rfl | rfl <;> rfl) (fun v80 w_81 _ _ => ?_)
  have j_82 := (PLs_f (fun a i z => W_n W76 (by /-r42,0-/ omega) rfl) q5)
  have z_83 := PLs_r j_82 4 (by decide) (by decide) (k := f.toInt) (by omega) (by omega) w_81
  have z_84 := x_row_v (s := sg) (r := 4) (x := f.toInt) (y := f.toInt) (by omega)
  refine to_an (pc := 6) rw_47_6 rfl ?_
  refine s_gR (pc := 7) rw_47_7 hG78 (by rcases hp with rfl | rfl <;> rfl) (v := (p + 3)) (by rcases hp with rfl | rfl <;> rfl) ?_
  refine to_in (pc := 10) rw_47_10 rfl ?_
  refine s_ial (pc := 11) rw_47_11 hG78 (by rcases hp with rfl | rfl <;> rfl) (n := 8) (by rcases hp with rfl | rfl <;> rfl) (by rcases hp with rfl | rfl <;> rfl) (A := f.toInt) rfl (by omega) (by omega) (lo := 0) (hi := 59) (by rcases hp with rfl | rfl <;> rfl) (by rcases hp with rfl | rfl <;> rfl) (fun v85 w_86 _ _ => ?_)
  have z_87 := PLs_r j_82 3 (by decide) (by decide) (k := f.toInt) (by omega) (by omega) w_86
  have z_88 := x_row_v (s := sg) (r := 3) (x := f.toInt) (y := f.toInt) (by omega)
  refine s_sub (pc := 12) rw_47_12 (A := v80.toInt) (B := v85.toInt) rfl rfl (by omega) (fun v89 e90 => ?_)
  refine to_c (pc := 13) rw_47_13 (x := (1 : Int32)) rfl rfl ?_
  refine s_add (pc := 14) rw_47_14 (A := v89.toInt) (B := 1) rfl rfl (by omega) (fun v91 e92 => ?_)
  refine to_r0 (pc := 15) rw_47_15 ?_
  refine to_c (pc := 17) rw_69_17 (x := (6 : Int32)) rfl rfl ?_
  refine s_min (pc := 19) rw_69_19 rfl (A := v91.toInt) (B := 6) rfl rfl (fun v93 _ _ _ => ?_)
  refine s_pI (pc := 22) rw_69_22 hG78 rfl (fun M95 W94 => ?_)
  have hG96 := g_w hG78 W94 (A := v93.toInt) rfl (lo := 0) (hi := 6) rfl rfl (by omega) (by decide)
  have F97 := FR.w F79 W94 (show 42 ≤ 42 ∧ 42 ≤ 44 by decide)
  refine to_c (pc := 25) rw_69_25 (x := (0 : Int32)) rfl rfl ?_
  refine to_is (pc := 26) rw_69_26 (ls2 := [.ref 42, .ref 17, .int k, .ref p, .ref 11, .int f, .int (0 : Int32), .null]) rfl rfl ?_
  have k_98 : (0 : Int32).toInt = 0 := rfl
  have c_99 : M95.2.1 42 0 = v73 := (W_n W94 (by decide) (W_e W76))
  have t_100 : (M95.2.1 42 0).toInt = v73.toInt := congrArg Int32.toInt c_99
  have j_101 := (PLs_f (fun a i z => W_n W94 (by /-r42,1-/ omega) rfl) j_82)
  have kn_102 : KST M95 12 13 14 15 ca sg K := KST_f (fun i => (W_j W94 (W_j W76 rfl))) (fun i => (W_n W94 (by omega) (W_n W76 (by omega) rfl))) (fun i => (W_n W94 (by omega) (W_n W76 (by omega) rfl))) (fun i => (W_j W94 (W_j W76 rfl))) q6
  have j_103 := (PKc_f (fun a i z => W_n W94 (by /-r42,1-/ omega) rfl) (PKc_f (fun a i z => W_n W76 (by /-r42,0-/ omega) rfl) q7))
  exact (U_69_0 (k := k) (p := p) (f := f) (sg := sg) (ca := ca) (K := K) (P9 := P9) (n9 := n9) hX hd hp q1 q2 q3 q4 q5 q6 q7 q8 q9 q10 h ((30 - (0 : Int32).toInt).toNat + 1)) M95 (0 : Int32) (.null) hG96 F97 (by omega) (by omega) (by omega) (by omega) j_101 kn_102 j_103 (fun k hk => by exfalso; omega) (by omega)
