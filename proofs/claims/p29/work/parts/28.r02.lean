theorem tg_111 {M M1 : mm_M} (F : FR (fun a i : Nat => 12 ≤ a ∧ a ≤ 15) M M1) : ∀ a i : Nat, (7 ≤ a ∧ a ≤ 10) → M1.2.1 a i = M.2.1 a i := fun a i z => F_n F (show ¬ (12 ≤ a ∧ a ≤ 15) by omega) rfl
theorem tg_112 {M M1 : mm_M} (F : FR (fun a i : Nat => a = 16) M M1) : ∀ a i : Nat, (7 ≤ a ∧ a ≤ 10) → M1.2.1 a i = M.2.1 a i := fun a i z => F_n F (show ¬ (a = 16) by omega) rfl
theorem tg_113 : ∀ a i : Nat, (12 ≤ a ∧ a ≤ 15) → (11 ≤ a ∧ a ≤ 16) := fun a i z => by omega
theorem tg_114 : ∀ a i : Nat, (a = 16) → (11 ≤ a ∧ a ≤ 16) := fun a i z => by omega
theorem tg_115 : ∀ a i j : Nat, (7 ≤ a ∧ a ≤ 10) → ¬ (a = 16 ∧ i = j) := fun a i j z => by omega
set_option maxRecDepth 4000 in
set_option maxHeartbeats 0 in
theorem U_9_0 {X : mm_X} {d : Nat} {M : mm_M} {Q : Option Value → mm_M → Prop} {p : Nat} {sg : x_S} {ca : Int} (hX : g_X X) (hd : 0 ≤ d) (hp : p = 49 ∨ p = 58) (q1 : CW M p sg) (q2 : x_G sg) (q3 : ca ≤ 30) (h : ∀ (M1 : mm_M), g_G M1 → FR md_ka M M1 → (KST M1 12 13 14 15 ca sg (x_k0 sg)) → Q (none) M1) : ∀ nn9 : Nat, (∀ (N : mm_M) (x2 : Int32), g_G N → FR md_ka M N → (0 ≤ x2.toInt) → (x2.toInt ≤ 12) → (CW N p sg) → (FG3 N sg x2.toInt) → 12 - x2.toInt < (nn9 : Int) → mm_T X d 9 54 [.ref 11, .ref p, .int x2] [] N Q) := by
  intro nn9
  induction nn9 with
  | zero =>
    intro N x2 hG F0 g1 g2 g3 g4 hm
    exfalso; omega
  | succ nn9 ih =>
    intro N x2 hG F0 g1 g2 g3 g4 hm
    refine to_in (pc := 54) rw_9_54 rfl (to_c (pc := 55) rw_9_55 (x := (12 : Int32)) rfl rfl (b_cge (pc := 57) rw_9_57 (A := x2.toInt) (B := 12) rfl rfl (fun h1 => ?_) (fun h1 => ?_)))
    · refine to_rv (pc := 78) rw_9_78 ?_
      exact h N hG F0 (FG3_e g4 (by omega) (by omega) q2)
    · refine to_an (pc := 60) rw_9_60 rfl (s_gR (pc := 61) rw_9_61 hG rfl (v := 15) rfl (to_in (pc := 64) rw_9_64 rfl (to_an (pc := 65) rw_9_65 rfl (s_gR (pc := 66) rw_9_66 hG (by rcases hp with rfl | rfl <;> rfl) (v := (p + 8)) (by rcases hp with rfl | rfl <;> rfl) (to_in (pc := 69) rw_9_69 rfl (s_lalE (pc := 70) rw_9_70 hG (by rcases hp with rfl | rfl <;> rfl) (n := 12) (by rcases hp with rfl | rfl <;> rfl) (A := x2.toInt) rfl (by omega) (by omega) (fun l2 w_3 => s_las (pc := 71) rw_9_71 hG rfl (n := 12) rfl (A := x2.toInt) rfl (by omega) (by omega) (fun M5 W4 => ?_))))))))
      have hG6 := g_wl hG W4
      have F7 := FR.wl F0 W4 (show 12 ≤ 15 ∧ 15 ≤ 15 by decide)
      refine s_inc (pc := 72) rw_9_72 (ls2 := fun v => [.ref 11, .ref p, .int v]) rfl rfl (fun _ => rfl) (A := x2.toInt) (B := 1) rfl rfl (by omega) (fun v8 e9 => to_go (pc := 75) rw_9_75 ?_)
      have j_10 := (CW_f (fun k hk9 => L_n W4 (by omega) rfl) g3)
      exact ih M5 v8 hG6 F7 (by omega) (by omega) j_10 (FG3_s g4 g3 w_3 W4 (by omega) (by omega) (by omega)) (by omega)
set_option maxRecDepth 4000 in
set_option maxHeartbeats 0 in
theorem U_9_1 {X : mm_X} {d : Nat} {M : mm_M} {Q : Option Value → mm_M → Prop} {p : Nat} {sg : x_S} {ca : Int} (hX : g_X X) (hd : 0 ≤ d) (hp : p = 49 ∨ p = 58) (q1 : CW M p sg) (q2 : x_G sg) (q3 : ca ≤ 30) (h : ∀ (M1 : mm_M), g_G M1 → FR md_ka M M1 → (KST M1 12 13 14 15 ca sg (x_k0 sg)) → Q (none) M1) : ∀ nn9 : Nat, (∀ (N : mm_M) (x2 : Int32), g_G N → FR md_ka M N → (0 ≤ x2.toInt) → (x2.toInt ≤ 240) → (CW N p sg) → (FG2 N x2.toInt) → 240 - x2.toInt < (nn9 : Int) → mm_T X d 9 30 [.ref 11, .ref p, .int x2] [] N Q) := by
  intro nn9
  induction nn9 with
  | zero =>
    intro N x2 hG F0 g1 g2 g3 g4 hm
    exfalso; omega
  | succ nn9 ih =>
    intro N x2 hG F0 g1 g2 g3 g4 hm
    refine to_in (pc := 30) rw_9_30 rfl (to_an (pc := 31) rw_9_31 rfl (s_gR (pc := 32) rw_9_32 hG rfl (v := 14) rfl (s_len (pc := 35) rw_9_35 hG rfl rfl (n := 240) rfl (v := (240 : Int32)) rfl (b_cge (pc := 36) rw_9_36 (A := x2.toInt) (B := 240) rfl rfl (fun h11 => ?_) (fun h11 => ?_)))))
    · refine to_c (pc := 52) rw_9_52 (x := (0 : Int32)) rfl rfl (to_isn (pc := 53) rw_9_53 (ls2 := [.ref 11, .ref p, .int (0 : Int32)]) rfl rfl ?_)
      have k_12 : (0 : Int32).toInt = 0 := rfl
      exact (U_9_0 (p := p) (sg := sg) (ca := ca) hX hd hp q1 q2 q3 h ((12 - (0 : Int32).toInt).toNat + 1)) N (0 : Int32) hG F0 (by omega) (by omega) g3 (FG3_0 g4 (by omega) (by omega)) (by omega)
    · refine to_an (pc := 39) rw_9_39 rfl (s_gR (pc := 40) rw_9_40 hG rfl (v := 14) rfl (to_in (pc := 43) rw_9_43 rfl (to_c (pc := 44) rw_9_44 (x := (-1 : Int32)) rfl rfl (s_ias (pc := 45) rw_9_45 hG rfl (n := 240) rfl (A := x2.toInt) rfl (by omega) (by omega) (fun M14 W13 => ?_)))))
      have hG15 := g_wf hG W13 rfl rfl (by decide)
      have F16 := FR.w F0 W13 (show 12 ≤ 14 ∧ 14 ≤ 15 by decide)
      refine s_inc (pc := 46) rw_9_46 (ls2 := fun v => [.ref 11, .ref p, .int v]) rfl rfl (fun _ => rfl) (A := x2.toInt) (B := 1) rfl rfl (by omega) (fun v17 e18 => to_go (pc := 49) rw_9_49 ?_)
      have j_19 := (CW_f (fun k hk9 => W_j W13 rfl) g3)
      exact ih M14 v17 hG15 F16 (by omega) (by omega) j_19 (FG2_s g4 W13 (by omega) (by omega) (by omega)) (by omega)
set_option maxRecDepth 4000 in
set_option maxHeartbeats 0 in
theorem U_9_2 {X : mm_X} {d : Nat} {M : mm_M} {Q : Option Value → mm_M → Prop} {p : Nat} {sg : x_S} {ca : Int} (hX : g_X X) (hd : 0 ≤ d) (hp : p = 49 ∨ p = 58) (q1 : CW M p sg) (q2 : x_G sg) (q3 : ca ≤ 30) (h : ∀ (M1 : mm_M), g_G M1 → FR md_ka M M1 → (KST M1 12 13 14 15 ca sg (x_k0 sg)) → Q (none) M1) : ∀ nn9 : Nat, (∀ (N : mm_M) (x2 : Int32), g_G N → FR md_ka M N → (0 ≤ x2.toInt) → (x2.toInt ≤ 30) → (CW N p sg) → (FG1 N x2.toInt) → 30 - x2.toInt < (nn9 : Int) → mm_T X d 9 2 [.ref 11, .ref p, .int x2] [] N Q) := by
  intro nn9
  induction nn9 with
  | zero =>
    intro N x2 hG F0 g1 g2 g3 g4 hm
    exfalso; omega
  | succ nn9 ih =>
    intro N x2 hG F0 g1 g2 g3 g4 hm
    refine to_in (pc := 2) rw_9_2 rfl (to_c (pc := 3) rw_9_3 (x := (30 : Int32)) rfl rfl (b_cge (pc := 5) rw_9_5 (A := x2.toInt) (B := 30) rfl rfl (fun h20 => ?_) (fun h20 => ?_)))
    · refine to_c (pc := 28) rw_9_28 (x := (0 : Int32)) rfl rfl (to_isn (pc := 29) rw_9_29 (ls2 := [.ref 11, .ref p, .int (0 : Int32)]) rfl rfl ?_)
      have k_21 : (0 : Int32).toInt = 0 := rfl
      exact (U_9_1 (p := p) (sg := sg) (ca := ca) hX hd hp q1 q2 q3 h ((240 - (0 : Int32).toInt).toNat + 1)) N (0 : Int32) hG F0 (by omega) (by omega) g3 (FG2_0 g4 (by omega) (by omega)) (by omega)
    · refine to_an (pc := 8) rw_9_8 rfl (s_gR (pc := 9) rw_9_9 hG rfl (v := 12) rfl (to_in (pc := 12) rw_9_12 rfl (to_cl (pc := 13) rw_9_13 rfl (x := (0 : Int64)) rfl (s_las (pc := 14) rw_9_14 hG rfl (n := 30) rfl (A := x2.toInt) rfl (by omega) (by omega) (fun M23 W22 => ?_)))))
      have hG24 := g_wl hG W22
      have F25 := FR.wl F0 W22 (show 12 ≤ 12 ∧ 12 ≤ 15 by decide)
      refine to_an (pc := 15) rw_9_15 rfl (s_gR (pc := 16) rw_9_16 hG24 rfl (v := 13) rfl (to_in (pc := 19) rw_9_19 rfl (to_c (pc := 20) rw_9_20 (x := (0 : Int32)) rfl rfl (s_ias (pc := 21) rw_9_21 hG24 rfl (n := 30) rfl (A := x2.toInt) rfl (by omega) (by omega) (fun M27 W26 => ?_)))))
      have hG28 := g_wf hG24 W26 rfl rfl (by decide)
      have F29 := FR.w F25 W26 (show 12 ≤ 13 ∧ 13 ≤ 15 by decide)
      refine s_inc (pc := 22) rw_9_22 (ls2 := fun v => [.ref 11, .ref p, .int v]) rfl rfl (fun _ => rfl) (A := x2.toInt) (B := 1) rfl rfl (by omega) (fun v30 e31 => to_go (pc := 25) rw_9_25 ?_)
      have j_32 := (CW_f (fun k hk9 => W_j W26 rfl) (CW_f (fun k hk9 => L_n W22 (by omega) rfl) g3))
      exact ih M27 v30 hG28 F29 (by omega) (by omega) j_32 (FG1_s g4 W22 W26 (by omega) (by omega) (by omega)) (by omega)
set_option maxRecDepth 4000 in
set_option maxHeartbeats 0 in
theorem E_9 {X : mm_X} {d : Nat} {M : mm_M} {Q : Option Value → mm_M → Prop} {p : Nat} {sg : x_S} {ca : Int} (hX : g_X X) (hd : 0 ≤ d) (hG : g_G M) (hp : p = 49 ∨ p = 58) (q1 : CW M p sg) (q2 : x_G sg) (q3 : ca ≤ 30) (h : ∀ (M1 : mm_M), g_G M1 → FR md_ka M M1 → (KST M1 12 13 14 15 ca sg (x_k0 sg)) → Q (none) M1) : mm_T X d 9 0 [.ref 11, .ref p, .null] [] M Q := by
  have F0 : FR md_ka M M := FR.rf
  refine to_c (pc := 0) rw_9_0 (x := (0 : Int32)) rfl rfl (to_isn (pc := 1) rw_9_1 (ls2 := [.ref 11, .ref p, .int (0 : Int32)]) rfl rfl ?_)
  have k_33 : (0 : Int32).toInt = 0 := rfl
  exact (U_9_2 (p := p) (sg := sg) (ca := ca) hX hd hp q1 q2 q3 h ((30 - (0 : Int32).toInt).toNat + 1)) M (0 : Int32) hG F0 (by omega) (by omega) q1 (FG1_0 (by omega)) (by omega)
set_option maxRecDepth 4000 in
set_option maxHeartbeats 0 in
theorem U_10_0 {X : mm_X} {d : Nat} {M : mm_M} {Q : Option Value → mm_M → Prop} {n : Int32} {NN : x_N} {nz : Int} (hX : g_X X) (hd : 0 ≤ d) (q1 : 0 ≤ n.toInt) (q2 : n.toInt ≤ 150) (q3 : n.toInt ≤ nz) (q4 : NTc M NN nz) (h : ∀ (M1 : mm_M), g_G M1 → FR md_ks M M1 → (∀ k : Nat, (k : Int) < n.toInt → (M1.2.1 16 k).toInt = x_st NN (n.toInt).toNat k) → Q (none) M1) : ∀ nn9 : Nat, (∀ (N : mm_M) (u2 : Value) (u3 : Value) (x4 : Int32), g_G N → FR md_ks M N → (-1 ≤ x4.toInt) → (x4.toInt ≤ 149) → (x4.toInt < n.toInt) → (SQc N NN n.toInt (x4.toInt + 1)) → (NTc N NN nz) → x4.toInt + 1 < (nn9 : Int) → mm_T X d 10 36 [.ref 11, .ref 6, u2, u3, .int x4] [] N Q) := by
  intro nn9
  induction nn9 with
  | zero =>
    intro N u2 u3 x4 hG F0 g1 g2 g3 g4 g5 hm
    exfalso; omega
  | succ nn9 ih =>
    intro N u2 u3 x4 hG F0 g1 g2 g3 g4 g5 hm
    refine to_i (pc := 36) rw_10_36 rfl (b_ilt (pc := 38) rw_10_38 (A := x4.toInt) rfl (fun h1 => ?_) (fun h1 => ?_))
    · refine to_rv (pc := 81) rw_10_81 ?_
      exact h N hG F0 (SQc_e g4 (by omega))
    · refine to_an (pc := 41) rw_10_41 rfl (s_gR (pc := 42) rw_10_42 hG rfl (v := 7) rfl (to_i (pc := 45) rw_10_45 rfl (s_ial (pc := 47) rw_10_47 hG rfl (n := 150) rfl rfl (A := x4.toInt) rfl (by omega) (by omega) (lo := 0) (hi := 5) rfl rfl (fun v2 w_3 _ _ => ?_))))
      have nl_4 := NTc_0 g5 (A := x4.toInt) (by omega) (by omega) w_3
      have z_5 := congrArg Int32.toInt nl_4
      refine to_c (pc := 48) rw_10_48 (x := (5 : Int32)) rfl rfl (b_cne (pc := 49) rw_10_49 (A := v2.toInt) (B := 5) rfl rfl (fun h6 => ?_) (fun h6 => ?_))
      · refine s_inc (pc := 75) rw_10_75 (ls2 := fun v => [.ref 11, .ref 6, u2, u3, .int v]) rfl rfl (fun _ => rfl) (A := x4.toInt) (B := -1) rfl rfl (by omega) (fun v7 e8 => to_go (pc := 78) rw_10_78 ?_)
        exact ih N (u2) (u3) v7 hG F0 (by omega) (by omega) (by omega) (SQc_1 g4 (by omega) rfl (by omega) (by omega)) g5 (by omega)
      · refine to_an (pc := 52) rw_10_52 rfl (s_gR (pc := 53) rw_10_53 hG rfl (v := 16) rfl (to_i (pc := 56) rw_10_56 rfl (s_bal (pc := 58) rw_10_58 hG rfl (n := 150) rfl (A := x4.toInt) rfl (by omega) (by omega) (lo := 0) (hi := 1) rfl rfl (fun v9 w_10 _ _ => b_ine (pc := 59) rw_10_59 (A := v9.toInt) rfl (fun h11 => ?_) (fun h11 => ?_)))))
        · refine s_inc (pc := 75) rw_10_75 (ls2 := fun v => [.ref 11, .ref 6, u2, u3, .int v]) rfl rfl (fun _ => rfl) (A := x4.toInt) (B := -1) rfl rfl (by omega) (fun v12 e13 => to_go (pc := 78) rw_10_78 ?_)
          exact ih N (u2) (u3) v12 hG F0 (by omega) (by omega) (by omega) (SQc_2 g4 (by omega) (by omega) rfl (by omega) w_10 (by omega)) g5 (by omega)
        · refine to_an (pc := 62) rw_10_62 rfl (s_gR (pc := 63) rw_10_63 hG rfl (v := 16) rfl (to_an (pc := 66) rw_10_66 rfl (s_gR (pc := 67) rw_10_67 hG rfl (v := 8) rfl (to_i (pc := 70) rw_10_70 rfl (s_ial (pc := 72) rw_10_72 hG rfl (n := 150) rfl rfl (A := x4.toInt) rfl (by omega) (by omega) (lo := 0) (hi := 149) rfl rfl (fun v14 w_15 _ _ => ?_))))))
          have nl_16 := NTc_1 g5 (A := x4.toInt) (by omega) (by omega) w_15
          have z_17 := congrArg Int32.toInt nl_16
          refine to_c (pc := 73) rw_10_73 (x := (1 : Int32)) rfl rfl (s_zas (pc := 74) rw_10_74 hG rfl (n := 150) rfl (A := v14.toInt) rfl (by omega) (by omega) (B := 1) rfl (by omega) (fun M19 W18 => ?_))
          have hG20 := g_w hG W18 (A := 1) rfl (lo := 0) (hi := 1) rfl rfl (by omega) (by decide)
          have F21 := FR.w F0 W18 (show 16 = 16 by decide)
          refine s_inc (pc := 75) rw_10_75 (ls2 := fun v => [.ref 11, .ref 6, u2, u3, .int v]) rfl rfl (fun _ => rfl) (A := x4.toInt) (B := -1) rfl rfl (by omega) (fun v22 e23 => to_go (pc := 78) rw_10_78 ?_)
          have j_24 := (NTc_f (fun a i z => W_n W18 (tg_115 a i _ z) rfl) g5)
          exact ih M19 (u2) (u3) v22 hG20 F21 (by omega) (by omega) (by omega) (SQc_3 g4 (by omega) (by omega) rfl (by omega) w_10 (by omega) (by omega) W18 (by omega)) j_24 (by omega)
set_option maxRecDepth 4000 in
set_option maxHeartbeats 0 in
theorem U_10_1 {X : mm_X} {d : Nat} {M : mm_M} {Q : Option Value → mm_M → Prop} {n : Int32} {NN : x_N} {nz : Int} (hX : g_X X) (hd : 0 ≤ d) (q1 : 0 ≤ n.toInt) (q2 : n.toInt ≤ 150) (q3 : n.toInt ≤ nz) (q4 : NTc M NN nz) (h : ∀ (M1 : mm_M), g_G M1 → FR md_ks M M1 → (∀ k : Nat, (k : Int) < n.toInt → (M1.2.1 16 k).toInt = x_st NN (n.toInt).toNat k) → Q (none) M1) : ∀ nn9 : Nat, (∀ (N : mm_M) (u2 : Value) (x3 : Int32) (x4 : Int32), g_G N → FR md_ks M N → (0 ≤ x4.toInt) → (x4.toInt ≤ 150) → (0 ≤ x3.toInt) → (x3.toInt ≤ 150) → (x3.toInt = n.toInt) → (x4.toInt ≤ x3.toInt) → (∀ k : Nat, (k : Int) < x4.toInt → N.2.1 16 k = 0) → (NTc N NN nz) → 150 - x4.toInt < (nn9 : Int) → mm_T X d 10 11 [.ref 11, .ref 6, u2, .int x3, .int x4] [] N Q) := by
  intro nn9
  induction nn9 with
  | zero =>
    intro N u2 x3 x4 hG F0 g1 g2 g3 g4 g5 g6 g7 g8 hm
    exfalso; omega
  | succ nn9 ih =>
    intro N u2 x3 x4 hG F0 g1 g2 g3 g4 g5 g6 g7 g8 hm
    refine to_i (pc := 11) rw_10_11 rfl (to_in (pc := 13) rw_10_13 rfl (b_cge (pc := 14) rw_10_14 (A := x4.toInt) (B := x3.toInt) rfl rfl (fun h25 => ?_) (fun h25 => ?_)))
    · refine to_in (pc := 31) rw_10_31 rfl (to_c (pc := 32) rw_10_32 (x := (1 : Int32)) rfl rfl (s_sub (pc := 33) rw_10_33 (A := x3.toInt) (B := 1) rfl rfl (by omega) (fun v26 e27 => to_is (pc := 34) rw_10_34 (ls2 := [.ref 11, .ref 6, u2, .int x3, .int v26]) rfl rfl ?_)))
      exact (U_10_0 (n := n) (NN := NN) (nz := nz) hX hd q1 q2 q3 q4 h ((v26.toInt + 1).toNat + 1)) N (u2) (.int x3) v26 hG F0 (by omega) (by omega) (by omega) (SQc_0 (fun k hk9 => g7 k (by omega)) (by omega)) g8 (by omega)
    · refine to_an (pc := 17) rw_10_17 rfl (s_gR (pc := 18) rw_10_18 hG rfl (v := 16) rfl (to_i (pc := 21) rw_10_21 rfl (to_c (pc := 23) rw_10_23 (x := (0 : Int32)) rfl rfl (s_zas (pc := 24) rw_10_24 hG rfl (n := 150) rfl (A := x4.toInt) rfl (by omega) (by omega) (B := 0) rfl (by omega) (fun M29 W28 => ?_)))))
      have hG30 := g_w hG W28 (A := 0) rfl (lo := 0) (hi := 1) rfl rfl (by omega) (by decide)
      have F31 := FR.w F0 W28 (show 16 = 16 by decide)
      refine s_inc (pc := 25) rw_10_25 (ls2 := fun v => [.ref 11, .ref 6, u2, .int x3, .int v]) rfl rfl (fun _ => rfl) (A := x4.toInt) (B := 1) rfl rfl (by omega) (fun v32 e33 => to_go (pc := 28) rw_10_28 ?_)
      have j_34 := (NTc_f (fun a i z => W_n W28 (tg_115 a i _ z) rfl) g8)
      exact ih M29 (u2) x3 v32 hG30 F31 (by omega) (by omega) (by omega) (by omega) (by omega) (by omega) (fill_s g7 W28 (by omega) (by omega) (by omega)) j_34 (by omega)
set_option maxRecDepth 4000 in
set_option maxHeartbeats 0 in
theorem E_10 {X : mm_X} {d : Nat} {M : mm_M} {Q : Option Value → mm_M → Prop} {n : Int32} {NN : x_N} {nz : Int} (hX : g_X X) (hd : 0 ≤ d) (hG : g_G M) (q1 : 0 ≤ n.toInt) (q2 : n.toInt ≤ 150) (q3 : n.toInt ≤ nz) (q4 : NTc M NN nz) (h : ∀ (M1 : mm_M), g_G M1 → FR md_ks M M1 → (∀ k : Nat, (k : Int) < n.toInt → (M1.2.1 16 k).toInt = x_st NN (n.toInt).toNat k) → Q (none) M1) : mm_T X d 10 0 [.ref 11, .ref 6, .int n, .null, .null] [] M Q := by
  have F0 : FR md_ks M M := FR.rf
  refine to_in (pc := 0) rw_10_0 rfl (to_c (pc := 1) rw_10_1 (x := (150 : Int32)) rfl rfl (s_min (pc := 4) rw_10_4 rfl (A := n.toInt) (B := 150) rfl rfl (fun v35 _ _ _ => to_isn (pc := 7) rw_10_7 (ls2 := [.ref 11, .ref 6, .int n, .int v35, .null]) rfl rfl (to_c (pc := 8) rw_10_8 (x := (0 : Int32)) rfl rfl (to_is (pc := 9) rw_10_9 (ls2 := [.ref 11, .ref 6, .int n, .int v35, .int (0 : Int32)]) rfl rfl ?_)))))
  have k_36 : (0 : Int32).toInt = 0 := rfl
  exact (U_10_1 (n := n) (NN := NN) (nz := nz) hX hd q1 q2 q3 q4 h ((150 - (0 : Int32).toInt).toNat + 1)) M (.int n) v35 (0 : Int32) hG F0 (by omega) (by omega) (by omega) (by omega) (by omega) (by omega) (fun k hk9 => by exfalso; rw [show (0 : Int32).toInt = 0 from rfl] at hk9; omega) q4 (by omega)
set_option maxRecDepth 4000 in
set_option maxHeartbeats 0 in
theorem U_8_0 {X : mm_X} {d : Nat} {M : mm_M} {Q : Option Value → mm_M → Prop} {p : Nat} {n : Int32} {sg : x_S} {NN : x_N} {nz : Int} {ca : Int} (hX : g_X X) (hd : 4 ≤ d) (hp : p = 49 ∨ p = 58) (q1 : 0 ≤ n.toInt) (q2 : n.toInt ≤ 150) (q3 : n.toInt ≤ nz) (q4 : CW M p sg) (q5 : PLs M p sg) (q6 : g_W2 X) (q7 : NTc M NN nz) (q8 : x_vn sg ca NN nz) (q9 : ca ≤ 30) (h : ∀ (M1 : mm_M), g_G M1 → FR md_k M M1 → (KST M1 12 13 14 15 ca sg (x_kn sg NN (n.toInt).toNat)) → Q (none) M1) : ∀ nn9 : Nat, (∀ (N : mm_M) (x4 : Int32), g_G N → FR md_k M N → (0 ≤ x4.toInt) → (x4.toInt ≤ 150) → (x4.toInt ≤ n.toInt) → (PLs N p sg) → (NTc N NN nz) → (∀ k : Nat, (k : Int) < n.toInt → (N.2.1 16 k).toInt = x_st NN (n.toInt).toNat k) → (RPK N 12 13 14 15 ca sg NN n.toInt x4.toInt) → 150 - x4.toInt < (nn9 : Int) → mm_T X d 8 14 [.ref 11, .ref p, .ref 6, .int n, .int x4] [] N Q) := by
  intro nn9
  induction nn9 with
  | zero =>
    intro N x4 hG F0 g1 g2 g3 g4 g5 g6 g7 hm
    exfalso; omega
  | succ nn9 ih =>
    intro N x4 hG F0 g1 g2 g3 g4 g5 g6 g7 hm
    obtain ⟨K, i_1, i_2⟩ := g7
    have z_1 := q5.2.1
    have z_2 := q5.2.2.1
    have z_3 := q5.2.2.2.1
    have z_4 := q5.1
    have z_5 := z_4.1
    have z_6 := z_4.2.1
    have z_7 := z_4.2.2.1
    have z_8 := z_4.2.2.2.1
    have z_9 := z_4.2.2.2.2.1
    have z_10 := z_4.2.2.2.2.2.1
    have b_11 := g_b hG (a := p) (i := 2) (lo := 0) (hi := 8) (by rcases hp with rfl | rfl <;> rfl) (by rcases hp with rfl | rfl <;> rfl)
    have b_12 := g_b hG (a := p) (i := 3) (lo := 0) (hi := 12) (by rcases hp with rfl | rfl <;> rfl) (by rcases hp with rfl | rfl <;> rfl)
    refine to_i (pc := 14) rw_8_14 rfl (to_in (pc := 16) rw_8_16 rfl (b_cge (pc := 17) rw_8_17 (A := x4.toInt) (B := n.toInt) rfl rfl (fun h13 => ?_) (fun h13 => ?_)))
    · refine to_rv (pc := 52) rw_8_52 ?_
      exact h N hG F0 (RPK_e i_1 i_2 (by omega))
    · refine to_i (pc := 20) rw_8_20 rfl (to_c (pc := 22) rw_8_22 (x := (150 : Int32)) rfl rfl (b_cge_f (pc := 25) rw_8_25 (A := x4.toInt) (B := 150) rfl rfl (by omega) (to_an (pc := 28) rw_8_28 rfl (s_gR (pc := 29) rw_8_29 hG rfl (v := 16) rfl (to_i (pc := 32) rw_8_32 rfl (s_bal (pc := 34) rw_8_34 hG rfl (n := 150) rfl (A := x4.toInt) rfl (by omega) (by omega) (lo := 0) (hi := 1) rfl rfl (fun v14 w_15 _ _ => ?_)))))))
      have z_16 := g6 (x4.toInt).toNat (by omega)
      rw [w_15] at z_16
      refine b_ine (pc := 35) rw_8_35 (A := v14.toInt) rfl (fun h17 => ?_) (fun h17 => ?_)
      · refine s_inc (pc := 46) rw_8_46 (ls2 := fun v => [.ref 11, .ref p, .ref 6, .int n, .int v]) rfl rfl (fun _ => rfl) (A := x4.toInt) (B := 1) rfl rfl (by omega) (fun v18 e19 => to_go (pc := 49) rw_8_49 ?_)
        exact ih N v18 hG F0 (by omega) (by omega) (by omega) g4 g5 g6 (RPK_1 i_1 i_2 (by omega) (by omega) (by omega) (by omega)) (by omega)
      · refine to_an (pc := 38) rw_8_38 rfl (to_an (pc := 39) rw_8_39 rfl (to_an (pc := 40) rw_8_40 rfl (to_i (pc := 41) rw_8_41 rfl (s_v (pc := 43) rw_8_43 (dp0 hd (by decide)) (ls0 := [.ref 11, .ref p, .ref 6, .int x4, .null, .null]) rfl (Nat.le_of_ble_eq_true rfl) (Nat.le_of_ble_eq_true rfl) rfl (to_rc rfl rfl rfl (g_o hG rfl)) rfl (E_11 hX (dp1 hd (by decide)) hG hp (by omega) (by omega) (by omega) g4 q6 g5 q8 (by omega) i_1 (p := p) (n := x4) (sg := sg) (NN := NN) (nz := nz) (ca := ca) (K := K) (fun M23 hG21 F20 p_22 => ?_))))))
        have F24 := FR.c F0 F20 tg_113
        refine s_inc (pc := 46) rw_8_46 (ls2 := fun v => [.ref 11, .ref p, .ref 6, .int n, .int v]) rfl rfl (fun _ => rfl) (A := x4.toInt) (B := 1) rfl rfl (by omega) (fun v25 e26 => to_go (pc := 49) rw_8_49 ?_)
        have j_27 := (PLs_f (fun a i z => F_n F20 (show ¬ (12 ≤ a ∧ a ≤ 15) by omega) rfl) g4)
        have j_28 := (NTc_f (tg_111 F20) g5)
        exact ih M23 v25 hG21 F24 (by omega) (by omega) (by omega) j_27 j_28 (fun k hk9 => (congrArg Int32.toInt (show M23.2.1 16 k = N.2.1 16 k from (F_n F20 (show ¬ (12 ≤ 16 ∧ 16 ≤ 15) by decide) rfl))).trans (g6 k hk9)) (RPK_2 p_22 i_2 (by omega) (by omega) (by omega) (by omega)) (by omega)
set_option maxRecDepth 4000 in
set_option maxHeartbeats 0 in
theorem E_8 {X : mm_X} {d : Nat} {M : mm_M} {Q : Option Value → mm_M → Prop} {p : Nat} {n : Int32} {sg : x_S} {NN : x_N} {nz : Int} {ca : Int} (hX : g_X X) (hd : 4 ≤ d) (hG : g_G M) (hp : p = 49 ∨ p = 58) (q1 : 0 ≤ n.toInt) (q2 : n.toInt ≤ 150) (q3 : n.toInt ≤ nz) (q4 : CW M p sg) (q5 : PLs M p sg) (q6 : g_W2 X) (q7 : NTc M NN nz) (q8 : x_vn sg ca NN nz) (q9 : ca ≤ 30) (h : ∀ (M1 : mm_M), g_G M1 → FR md_k M M1 → (KST M1 12 13 14 15 ca sg (x_kn sg NN (n.toInt).toNat)) → Q (none) M1) : mm_T X d 8 0 [.ref 11, .ref p, .ref 6, .int n, .null] [] M Q := by
  have F0 : FR md_k M M := FR.rf
  have z_29 := q5.2.1
  have z_30 := q5.2.2.1
  have z_31 := q5.2.2.2.1
  have z_32 := q5.1
  have z_33 := z_32.1
  have z_34 := z_32.2.1
  have z_35 := z_32.2.2.1
  have z_36 := z_32.2.2.2.1
  have z_37 := z_32.2.2.2.2.1
  have z_38 := z_32.2.2.2.2.2.1
  have b_39 := g_b hG (a := p) (i := 2) (lo := 0) (hi := 8) (by rcases hp with rfl | rfl <;> rfl) (by rcases hp with rfl | rfl <;> rfl)
  have b_40 := g_b hG (a := p) (i := 3) (lo := 0) (hi := 12) (by rcases hp with rfl | rfl <;> rfl) (by rcases hp with rfl | rfl <;> rfl)
  refine to_an (pc := 0) rw_8_0 rfl (to_an (pc := 1) rw_8_1 rfl (s_v (pc := 2) rw_8_2 (dp0 hd (by decide)) (ls0 := [.ref 11, .ref p, .null]) rfl (Nat.le_of_ble_eq_true rfl) (Nat.le_of_ble_eq_true rfl) rfl (to_rc rfl rfl rfl (g_o hG rfl)) rfl (E_9 hX (dp1 hd (by decide)) hG hp q4 q5.1 (by omega) (p := p) (sg := sg) (ca := ca) (fun M44 hG42 F41 p_43 => ?_))))
  have F45 := FR.c F0 F41 tg_113
  refine to_an (pc := 5) rw_8_5 rfl (to_an (pc := 6) rw_8_6 rfl (to_in (pc := 7) rw_8_7 rfl (s_v (pc := 8) rw_8_8 (dp0 hd (by decide)) (ls0 := [.ref 11, .ref 6, .int n, .null, .null]) rfl (Nat.le_of_ble_eq_true rfl) (Nat.le_of_ble_eq_true rfl) rfl (to_rc rfl rfl rfl (g_o hG42 rfl)) rfl ?_)))
  have j_46 := (NTc_f (tg_111 F41) q7)
  refine E_10 hX (dp1 hd (by decide)) hG42 (by omega) (by omega) (by omega) j_46 (n := n) (NN := NN) (nz := nz) (fun M50 hG48 F47 p_49 => ?_)
  have F51 := FR.c F45 F47 tg_114
  refine to_c (pc := 11) rw_8_11 (x := (0 : Int32)) rfl rfl (to_is (pc := 12) rw_8_12 (ls2 := [.ref 11, .ref p, .ref 6, .int n, .int (0 : Int32)]) rfl rfl ?_)
  have k_52 : (0 : Int32).toInt = 0 := rfl
  have j_53 := (PLs_f (fun a i z => F_n F47 (show ¬ (a = 16) by omega) rfl) (PLs_f (fun a i z => F_n F41 (show ¬ (12 ≤ a ∧ a ≤ 15) by omega) rfl) q5))
  have j_54 := (NTc_f (tg_112 F47) j_46)
  have kn_55 : KST M50 12 13 14 15 ca sg (x_k0 sg) := KST_f (fun i => (F_nl F47 (show ¬ (12 = 16) by decide) rfl)) (fun i => (F_n F47 (show ¬ (13 = 16) by decide) rfl)) (fun i => (F_n F47 (show ¬ (14 = 16) by decide) rfl)) (fun i => (F_nl F47 (show ¬ (15 = 16) by decide) rfl)) p_43
  exact (U_8_0 (p := p) (n := n) (sg := sg) (NN := NN) (nz := nz) (ca := ca) hX hd hp q1 q2 q3 q4 q5 q6 q7 q8 q9 h ((150 - (0 : Int32).toInt).toNat + 1)) M50 (0 : Int32) hG48 F51 (by omega) (by omega) (by omega) j_53 j_54 p_49 (RPK_0 kn_55 (by omega)) (by omega)
